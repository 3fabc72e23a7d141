theorem dX8_hire_28 : decode cX8_hire 28 = .ok (.iconst 1, 1) := by decide +kernel
theorem dX8_hire_29 : decode cX8_hire 29 = .ok (.invokevirtual 77, 3) := by decide +kernel
theorem dX8_hire_32 : decode cX8_hire 32 = .ok (.iconst 1, 1) := by decide +kernel
theorem dX8_hire_33 : decode cX8_hire 33 = .ok (.if_icmp .ne 6, 3) := by decide +kernel
theorem dX8_hire_36 : decode cX8_hire 36 = .ok (.bipush (-3), 2) := by decide +kernel
theorem dX8_hire_38 : decode cX8_hire 38 = .ok (.ireturn, 1) := by decide +kernel
theorem dX8_hire_39 : decode cX8_hire 39 = .ok (.aload_n 3, 1) := by decide +kernel
theorem dX8_hire_40 : decode cX8_hire 40 = .ok (.invokevirtual 80, 3) := by decide +kernel
theorem dX8_hire_43 : decode cX8_hire 43 = .ok (.istore 4, 2) := by decide +kernel
theorem dX8_hire_45 : decode cX8_hire 45 = .ok (.aload_n 0, 1) := by decide +kernel
theorem dX8_hire_46 : decode cX8_hire 46 = .ok (.iload_n 2, 1) := by decide +kernel
theorem dX8_hire_47 : decode cX8_hire 47 = .ok (.iload 4, 2) := by decide +kernel
theorem dX8_hire_49 : decode cX8_hire 49 = .ok (.ineg, 1) := by decide +kernel
theorem dX8_hire_50 : decode cX8_hire 50 = .ok (.invokevirtual 84, 3) := by decide +kernel
theorem dX8_hire_53 : decode cX8_hire 53 = .ok (.aload_n 3, 1) := by decide +kernel
theorem dX8_hire_54 : decode cX8_hire 54 = .ok (.iload_n 2, 1) := by decide +kernel
theorem dX8_hire_55 : decode cX8_hire 55 = .ok (.aload_n 0, 1) := by decide +kernel
theorem dX8_hire_56 : decode cX8_hire 56 = .ok (.getfield 30, 3) := by decide +kernel
theorem dX8_hire_59 : decode cX8_hire 59 = .ok (.invokevirtual 88, 3) := by decide +kernel
theorem dX8_hire_62 : decode cX8_hire 62 = .ok (.aload_n 0, 1) := by decide +kernel
theorem dX8_hire_63 : decode cX8_hire 63 = .ok (.dup, 1) := by decide +kernel
theorem dX8_hire_64 : decode cX8_hire 64 = .ok (.getfield 36, 3) := by decide +kernel
theorem dX8_hire_67 : decode cX8_hire 67 = .ok (.iconst 1, 1) := by decide +kernel
theorem dX8_hire_68 : decode cX8_hire 68 = .ok (.iadd, 1) := by decide +kernel
theorem dX8_hire_69 : decode cX8_hire 69 = .ok (.putfield 36, 3) := by decide +kernel
theorem dX8_hire_72 : decode cX8_hire 72 = .ok (.iload 4, 2) := by decide +kernel
theorem dX8_hire_74 : decode cX8_hire 74 = .ok (.ireturn, 1) := by decide +kernel
theorem dX8_back_0 : decode cX8_back 0 = .ok (.aload_n 0, 1) := by decide +kernel
theorem dX8_back_1 : decode cX8_back 1 = .ok (.iload_n 1, 1) := by decide +kernel
theorem dX8_back_2 : decode cX8_back 2 = .ok (.invokevirtual 48, 3) := by decide +kernel
theorem dX8_back_5 : decode cX8_back 5 = .ok (.astore_n 2, 1) := by decide +kernel
theorem dX8_back_6 : decode cX8_back 6 = .ok (.aload_n 2, 1) := by decide +kernel
theorem dX8_back_7 : decode cX8_back 7 = .ok (.ifnonnull 6, 3) := by decide +kernel
theorem dX8_back_10 : decode cX8_back 10 = .ok (.bipush (-2), 2) := by decide +kernel
theorem dX8_back_12 : decode cX8_back 12 = .ok (.ireturn, 1) := by decide +kernel
theorem dX8_back_13 : decode cX8_back 13 = .ok (.aload_n 2, 1) := by decide +kernel
theorem dX8_back_14 : decode cX8_back 14 = .ok (.getfield 74, 3) := by decide +kernel
theorem dX8_back_17 : decode cX8_back 17 = .ok (.iconst 1, 1) := by decide +kernel
theorem dX8_back_18 : decode cX8_back 18 = .ok (.if_icmp .eq 6, 3) := by decide +kernel
theorem dX8_back_21 : decode cX8_back 21 = .ok (.bipush (-3), 2) := by decide +kernel
theorem dX8_back_23 : decode cX8_back 23 = .ok (.ireturn, 1) := by decide +kernel
theorem dX8_back_24 : decode cX8_back 24 = .ok (.iconst 1, 1) := by decide +kernel
theorem dX8_back_25 : decode cX8_back 25 = .ok (.aload_n 0, 1) := by decide +kernel
theorem dX8_back_26 : decode cX8_back 26 = .ok (.getfield 30, 3) := by decide +kernel
theorem dX8_back_29 : decode cX8_back 29 = .ok (.aload_n 2, 1) := by decide +kernel
theorem dX8_back_30 : decode cX8_back 30 = .ok (.getfield 91, 3) := by decide +kernel
theorem dX8_back_33 : decode cX8_back 33 = .ok (.isub, 1) := by decide +kernel
theorem dX8_back_34 : decode cX8_back 34 = .ok (.invokestatic 94, 3) := by decide +kernel
theorem dX8_back_37 : decode cX8_back 37 = .ok (.istore_n 3, 1) := by decide +kernel
theorem dX8_back_38 : decode cX8_back 38 = .ok (.aload_n 2, 1) := by decide +kernel
theorem dX8_back_39 : decode cX8_back 39 = .ok (.iload_n 3, 1) := by decide +kernel
theorem dX8_back_40 : decode cX8_back 40 = .ok (.invokevirtual 100, 3) := by decide +kernel
theorem dX8_back_43 : decode cX8_back 43 = .ok (.aload_n 2, 1) := by decide +kernel
theorem dX8_back_44 : decode cX8_back 44 = .ok (.iload_n 3, 1) := by decide +kernel
theorem dX8_back_45 : decode cX8_back 45 = .ok (.invokevirtual 103, 3) := by decide +kernel
theorem dX8_back_48 : decode cX8_back 48 = .ok (.iadd, 1) := by decide +kernel
theorem dX8_back_49 : decode cX8_back 49 = .ok (.istore 4, 2) := by decide +kernel
theorem dX8_back_51 : decode cX8_back 51 = .ok (.aload_n 0, 1) := by decide +kernel
theorem dX8_back_52 : decode cX8_back 52 = .ok (.aload_n 2, 1) := by decide +kernel
theorem dX8_back_53 : decode cX8_back 53 = .ok (.getfield 106, 3) := by decide +kernel
theorem dX8_back_56 : decode cX8_back 56 = .ok (.aload_n 2, 1) := by decide +kernel
theorem dX8_back_57 : decode cX8_back 57 = .ok (.invokevirtual 80, 3) := by decide +kernel
theorem dX8_back_60 : decode cX8_back 60 = .ok (.iload 4, 2) := by decide +kernel
theorem dX8_back_62 : decode cX8_back 62 = .ok (.isub, 1) := by decide +kernel
theorem dX8_back_63 : decode cX8_back 63 = .ok (.invokevirtual 84, 3) := by decide +kernel
theorem dX8_back_66 : decode cX8_back 66 = .ok (.aload_n 2, 1) := by decide +kernel
theorem dX8_back_67 : decode cX8_back 67 = .ok (.iload_n 3, 1) := by decide +kernel
theorem dX8_back_68 : decode cX8_back 68 = .ok (.invokevirtual 109, 3) := by decide +kernel
theorem dX8_back_71 : decode cX8_back 71 = .ok (.iload 4, 2) := by decide +kernel
theorem dX8_back_73 : decode cX8_back 73 = .ok (.ireturn, 1) := by decide +kernel
theorem dX8_service_0 : decode cX8_service 0 = .ok (.aload_n 0, 1) := by decide +kernel
theorem dX8_service_1 : decode cX8_service 1 = .ok (.iload_n 1, 1) := by decide +kernel
theorem dX8_service_2 : decode cX8_service 2 = .ok (.invokevirtual 48, 3) := by decide +kernel
theorem dX8_service_5 : decode cX8_service 5 = .ok (.astore_n 2, 1) := by decide +kernel
theorem dX8_service_6 : decode cX8_service 6 = .ok (.aload_n 2, 1) := by decide +kernel
theorem dX8_service_7 : decode cX8_service 7 = .ok (.ifnonnull 6, 3) := by decide +kernel
theorem dX8_service_10 : decode cX8_service 10 = .ok (.bipush (-2), 2) := by decide +kernel
theorem dX8_service_12 : decode cX8_service 12 = .ok (.ireturn, 1) := by decide +kernel
theorem dX8_service_13 : decode cX8_service 13 = .ok (.aload_n 2, 1) := by decide +kernel
theorem dX8_service_14 : decode cX8_service 14 = .ok (.getfield 74, 3) := by decide +kernel
theorem dX8_service_17 : decode cX8_service 17 = .ok (.iconst 1, 1) := by decide +kernel
theorem dX8_service_18 : decode cX8_service 18 = .ok (.if_icmp .ne 6, 3) := by decide +kernel
theorem dX8_service_21 : decode cX8_service 21 = .ok (.bipush (-3), 2) := by decide +kernel
theorem dX8_service_23 : decode cX8_service 23 = .ok (.ireturn, 1) := by decide +kernel
theorem dX8_service_24 : decode cX8_service 24 = .ok (.bipush 100, 2) := by decide +kernel
theorem dX8_service_26 : decode cX8_service 26 = .ok (.bipush 50, 2) := by decide +kernel
theorem dX8_service_28 : decode cX8_service 28 = .ok (.aload_n 2, 1) := by decide +kernel
theorem dX8_service_29 : decode cX8_service 29 = .ok (.invokevirtual 113, 3) := by decide +kernel
theorem dX8_service_32 : decode cX8_service 32 = .ok (.imul, 1) := by decide +kernel
theorem dX8_service_33 : decode cX8_service 33 = .ok (.iadd, 1) := by decide +kernel
theorem dX8_service_34 : decode cX8_service 34 = .ok (.istore_n 3, 1) := by decide +kernel
theorem dX8_service_35 : decode cX8_service 35 = .ok (.aload_n 2, 1) := by decide +kernel
theorem dX8_service_36 : decode cX8_service 36 = .ok (.invokevirtual 116, 3) := by decide +kernel
theorem dX8_service_39 : decode cX8_service 39 = .ok (.aload_n 0, 1) := by decide +kernel
theorem dX8_service_40 : decode cX8_service 40 = .ok (.dup, 1) := by decide +kernel
theorem dX8_service_41 : decode cX8_service 41 = .ok (.getfield 33, 3) := by decide +kernel
theorem dX8_service_44 : decode cX8_service 44 = .ok (.iload_n 3, 1) := by decide +kernel
theorem dX8_service_45 : decode cX8_service 45 = .ok (.iadd, 1) := by decide +kernel
theorem dX8_service_46 : decode cX8_service 46 = .ok (.putfield 33, 3) := by decide +kernel
theorem dX8_service_49 : decode cX8_service 49 = .ok (.iload_n 3, 1) := by decide +kernel
theorem dX8_service_50 : decode cX8_service 50 = .ok (.ireturn, 1) := by decide +kernel
theorem dX8_day_0 : decode cX8_day 0 = .ok (.iload_n 1, 1) := by decide +kernel
theorem dX8_day_1 : decode cX8_day 1 = .ok (.iconst 1, 1) := by decide +kernel
theorem dX8_day_2 : decode cX8_day 2 = .ok (.bipush 50, 2) := by decide +kernel
theorem dX8_day_4 : decode cX8_day 4 = .ok (.invokestatic 39, 3) := by decide +kernel
theorem dX8_day_7 : decode cX8_day 7 = .ok (.ifCond .ne 6, 3) := by decide +kernel
theorem dX8_day_10 : decode cX8_day 10 = .ok (.bipush (-2), 2) := by decide +kernel
theorem dX8_day_12 : decode cX8_day 12 = .ok (.ireturn, 1) := by decide +kernel
theorem dX8_day_13 : decode cX8_day 13 = .ok (.aload_n 0, 1) := by decide +kernel
theorem dX8_day_14 : decode cX8_day 14 = .ok (.getfield 30, 3) := by decide +kernel
theorem dX8_day_17 : decode cX8_day 17 = .ok (.iload_n 1, 1) := by decide +kernel
theorem dX8_day_18 : decode cX8_day 18 = .ok (.iadd, 1) := by decide +kernel
theorem dX8_day_19 : decode cX8_day 19 = .ok (.sipush 20000, 3) := by decide +kernel
theorem dX8_day_22 : decode cX8_day 22 = .ok (.if_icmp .le 6, 3) := by decide +kernel
theorem dX8_day_25 : decode cX8_day 25 = .ok (.bipush (-4), 2) := by decide +kernel
theorem dX8_day_27 : decode cX8_day 27 = .ok (.ireturn, 1) := by decide +kernel
theorem dX8_day_28 : decode cX8_day 28 = .ok (.aload_n 0, 1) := by decide +kernel
theorem dX8_day_29 : decode cX8_day 29 = .ok (.dup, 1) := by decide +kernel
theorem dX8_day_30 : decode cX8_day 30 = .ok (.getfield 30, 3) := by decide +kernel
theorem dX8_day_33 : decode cX8_day 33 = .ok (.iload_n 1, 1) := by decide +kernel
theorem dX8_day_34 : decode cX8_day 34 = .ok (.iadd, 1) := by decide +kernel
theorem dX8_day_35 : decode cX8_day 35 = .ok (.putfield 30, 3) := by decide +kernel
theorem dX8_day_38 : decode cX8_day 38 = .ok (.aload_n 0, 1) := by decide +kernel
theorem dX8_day_39 : decode cX8_day 39 = .ok (.getfield 30, 3) := by decide +kernel
theorem dX8_day_42 : decode cX8_day 42 = .ok (.ireturn, 1) := by decide +kernel
theorem dX8_account_0 : decode cX8_account 0 = .ok (.iload_n 1, 1) := by decide +kernel
theorem dX8_account_1 : decode cX8_account 1 = .ok (.invokestatic 70, 3) := by decide +kernel
theorem dX8_account_4 : decode cX8_account 4 = .ok (.ifCond .eq 12, 3) := by decide +kernel
theorem dX8_account_7 : decode cX8_account 7 = .ok (.aload_n 0, 1) := by decide +kernel
theorem dX8_account_8 : decode cX8_account 8 = .ok (.getfield 22, 3) := by decide +kernel
theorem dX8_account_11 : decode cX8_account 11 = .ok (.iload_n 1, 1) := by decide +kernel
theorem dX8_account_12 : decode cX8_account 12 = .ok (.laload, 1) := by decide +kernel
theorem dX8_account_13 : decode cX8_account 13 = .ok (.goto 4, 3) := by decide +kernel
theorem dX8_account_16 : decode cX8_account 16 = .ok (.lconst 0, 1) := by decide +kernel
theorem dX8_account_17 : decode cX8_account 17 = .ok (.lreturn, 1) := by decide +kernel
theorem dX8_told_0 : decode cX8_told 0 = .ok (.aload_n 0, 1) := by decide +kernel
theorem dX8_told_1 : decode cX8_told 1 = .ok (.iload_n 1, 1) := by decide +kernel
theorem dX8_told_2 : decode cX8_told 2 = .ok (.invokevirtual 48, 3) := by decide +kernel
theorem dX8_told_5 : decode cX8_told 5 = .ok (.astore_n 3, 1) := by decide +kernel
theorem dX8_told_6 : decode cX8_told 6 = .ok (.aload_n 3, 1) := by decide +kernel
theorem dX8_told_7 : decode cX8_told 7 = .ok (.ifnonnull 6, 3) := by decide +kernel
theorem dX8_told_10 : decode cX8_told 10 = .ok (.bipush (-2), 2) := by decide +kernel
theorem dX8_told_12 : decode cX8_told 12 = .ok (.ireturn, 1) := by decide +kernel
theorem dX8_told_13 : decode cX8_told 13 = .ok (.iload_n 2, 1) := by decide +kernel
theorem dX8_told_14 : decode cX8_told 14 = .ok (.tableswitch 93 0 6 #[42, 47, 52, 57, 62, 67, 80], 42) := by decide +kernel
theorem dX8_told_56 : decode cX8_told 56 = .ok (.aload_n 3, 1) := by decide +kernel
theorem dX8_told_57 : decode cX8_told 57 = .ok (.getfield 119, 3) := by decide +kernel
theorem dX8_told_60 : decode cX8_told 60 = .ok (.ireturn, 1) := by decide +kernel
theorem dX8_told_61 : decode cX8_told 61 = .ok (.aload_n 3, 1) := by decide +kernel
theorem dX8_told_62 : decode cX8_told 62 = .ok (.getfield 122, 3) := by decide +kernel
theorem dX8_told_65 : decode cX8_told 65 = .ok (.ireturn, 1) := by decide +kernel
theorem dX8_told_66 : decode cX8_told 66 = .ok (.aload_n 3, 1) := by decide +kernel
theorem dX8_told_67 : decode cX8_told 67 = .ok (.getfield 74, 3) := by decide +kernel
theorem dX8_told_70 : decode cX8_told 70 = .ok (.ireturn, 1) := by decide +kernel
theorem dX8_told_71 : decode cX8_told 71 = .ok (.aload_n 3, 1) := by decide +kernel
theorem dX8_told_72 : decode cX8_told 72 = .ok (.getfield 106, 3) := by decide +kernel
theorem dX8_told_75 : decode cX8_told 75 = .ok (.ireturn, 1) := by decide +kernel
theorem dX8_told_76 : decode cX8_told 76 = .ok (.aload_n 3, 1) := by decide +kernel
theorem dX8_told_77 : decode cX8_told 77 = .ok (.getfield 91, 3) := by decide +kernel
theorem dX8_told_80 : decode cX8_told 80 = .ok (.ireturn, 1) := by decide +kernel
theorem dX8_told_81 : decode cX8_told 81 = .ok (.aload_n 3, 1) := by decide +kernel
theorem dX8_told_82 : decode cX8_told 82 = .ok (.invokevirtual 125, 3) := by decide +kernel
theorem dX8_told_85 : decode cX8_told 85 = .ok (.ifCond .eq 7, 3) := by decide +kernel
theorem dX8_told_88 : decode cX8_told 88 = .ok (.iconst 1, 1) := by decide +kernel
theorem dX8_told_89 : decode cX8_told 89 = .ok (.goto 4, 3) := by decide +kernel
theorem dX8_told_92 : decode cX8_told 92 = .ok (.iconst 0, 1) := by decide +kernel
theorem dX8_told_93 : decode cX8_told 93 = .ok (.ireturn, 1) := by decide +kernel
theorem dX8_told_94 : decode cX8_told 94 = .ok (.aload_n 3, 1) := by decide +kernel
theorem dX8_told_95 : decode cX8_told 95 = .ok (.invokevirtual 129, 3) := by decide +kernel
theorem dX8_told_98 : decode cX8_told 98 = .ok (.ifCond .eq 7, 3) := by decide +kernel
theorem dX8_told_101 : decode cX8_told 101 = .ok (.iconst 1, 1) := by decide +kernel
theorem dX8_told_102 : decode cX8_told 102 = .ok (.goto 4, 3) := by decide +kernel
theorem dX8_told_105 : decode cX8_told 105 = .ok (.iconst 0, 1) := by decide +kernel
theorem dX8_told_106 : decode cX8_told 106 = .ok (.ireturn, 1) := by decide +kernel
theorem dX8_told_107 : decode cX8_told 107 = .ok (.bipush (-2), 2) := by decide +kernel
theorem dX8_told_109 : decode cX8_told 109 = .ok (.ireturn, 1) := by decide +kernel
theorem dX8_count_0 : decode cX8_count 0 = .ok (.iload_n 1, 1) := by decide +kernel
theorem dX8_count_1 : decode cX8_count 1 = .ok (.tableswitch 72 0 5 #[39, 45, 51, 57, 62, 67], 39) := by decide +kernel
theorem dX8_count_40 : decode cX8_count 40 = .ok (.aload_n 0, 1) := by decide +kernel
theorem dX8_count_41 : decode cX8_count 41 = .ok (.iconst 0, 1) := by decide +kernel
theorem dX8_count_42 : decode cX8_count 42 = .ok (.invokevirtual 132, 3) := by decide +kernel
theorem dX8_count_45 : decode cX8_count 45 = .ok (.ireturn, 1) := by decide +kernel
theorem dX8_count_46 : decode cX8_count 46 = .ok (.aload_n 0, 1) := by decide +kernel
theorem dX8_count_47 : decode cX8_count 47 = .ok (.iconst 1, 1) := by decide +kernel
theorem dX8_count_48 : decode cX8_count 48 = .ok (.invokevirtual 132, 3) := by decide +kernel
theorem dX8_count_51 : decode cX8_count 51 = .ok (.ireturn, 1) := by decide +kernel
theorem dX8_count_52 : decode cX8_count 52 = .ok (.aload_n 0, 1) := by decide +kernel
theorem dX8_count_53 : decode cX8_count 53 = .ok (.iconst 2, 1) := by decide +kernel
theorem dX8_count_54 : decode cX8_count 54 = .ok (.invokevirtual 132, 3) := by decide +kernel
theorem dX8_count_57 : decode cX8_count 57 = .ok (.ireturn, 1) := by decide +kernel
theorem dX8_count_58 : decode cX8_count 58 = .ok (.aload_n 0, 1) := by decide +kernel
theorem dX8_count_59 : decode cX8_count 59 = .ok (.getfield 30, 3) := by decide +kernel
theorem dX8_count_62 : decode cX8_count 62 = .ok (.ireturn, 1) := by decide +kernel
theorem dX8_count_63 : decode cX8_count 63 = .ok (.aload_n 0, 1) := by decide +kernel
theorem dX8_count_64 : decode cX8_count 64 = .ok (.getfield 33, 3) := by decide +kernel
theorem dX8_count_67 : decode cX8_count 67 = .ok (.ireturn, 1) := by decide +kernel
theorem dX8_count_68 : decode cX8_count 68 = .ok (.aload_n 0, 1) := by decide +kernel
theorem dX8_count_69 : decode cX8_count 69 = .ok (.getfield 36, 3) := by decide +kernel
theorem dX8_count_72 : decode cX8_count 72 = .ok (.ireturn, 1) := by decide +kernel
theorem dX8_count_73 : decode cX8_count 73 = .ok (.bipush (-2), 2) := by decide +kernel
theorem dX8_count_75 : decode cX8_count 75 = .ok (.ireturn, 1) := by decide +kernel
theorem dX8_isWithin_0 : decode cX8_isWithin 0 = .ok (.iload_n 0, 1) := by decide +kernel
theorem dX8_isWithin_1 : decode cX8_isWithin 1 = .ok (.iload_n 1, 1) := by decide +kernel
theorem dX8_isWithin_2 : decode cX8_isWithin 2 = .ok (.if_icmp .lt 12, 3) := by decide +kernel
theorem dX8_isWithin_5 : decode cX8_isWithin 5 = .ok (.iload_n 0, 1) := by decide +kernel
theorem dX8_isWithin_6 : decode cX8_isWithin 6 = .ok (.iload_n 2, 1) := by decide +kernel
theorem dX8_isWithin_7 : decode cX8_isWithin 7 = .ok (.if_icmp .gt 7, 3) := by decide +kernel
theorem dX8_isWithin_10 : decode cX8_isWithin 10 = .ok (.iconst 1, 1) := by decide +kernel
theorem dX8_isWithin_11 : decode cX8_isWithin 11 = .ok (.goto 4, 3) := by decide +kernel
theorem dX8_isWithin_14 : decode cX8_isWithin 14 = .ok (.iconst 0, 1) := by decide +kernel
theorem dX8_isWithin_15 : decode cX8_isWithin 15 = .ok (.ireturn, 1) := by decide +kernel
theorem dX8_isCustomer_0 : decode cX8_isCustomer 0 = .ok (.iload_n 0, 1) := by decide +kernel
theorem dX8_isCustomer_1 : decode cX8_isCustomer 1 = .ok (.iconst 0, 1) := by decide +kernel
theorem dX8_isCustomer_2 : decode cX8_isCustomer 2 = .ok (.iconst 5, 1) := by decide +kernel
theorem dX8_isCustomer_3 : decode cX8_isCustomer 3 = .ok (.invokestatic 39, 3) := by decide +kernel
theorem dX8_isCustomer_6 : decode cX8_isCustomer 6 = .ok (.ireturn, 1) := by decide +kernel
theorem dX8_toolAt_0 : decode cX8_toolAt 0 = .ok (.iload_n 1, 1) := by decide +kernel
theorem dX8_toolAt_1 : decode cX8_toolAt 1 = .ok (.ifCond .lt 21, 3) := by decide +kernel
theorem dX8_toolAt_4 : decode cX8_toolAt 4 = .ok (.iload_n 1, 1) := by decide +kernel
theorem dX8_toolAt_5 : decode cX8_toolAt 5 = .ok (.aload_n 0, 1) := by decide +kernel
theorem dX8_toolAt_6 : decode cX8_toolAt 6 = .ok (.getfield 18, 3) := by decide +kernel
theorem dX8_toolAt_9 : decode cX8_toolAt 9 = .ok (.arraylength, 1) := by decide +kernel
theorem dX8_toolAt_10 : decode cX8_toolAt 10 = .ok (.if_icmp .ge 12, 3) := by decide +kernel
theorem dX8_toolAt_13 : decode cX8_toolAt 13 = .ok (.aload_n 0, 1) := by decide +kernel
theorem dX8_toolAt_14 : decode cX8_toolAt 14 = .ok (.getfield 18, 3) := by decide +kernel
theorem dX8_toolAt_17 : decode cX8_toolAt 17 = .ok (.iload_n 1, 1) := by decide +kernel
theorem dX8_toolAt_18 : decode cX8_toolAt 18 = .ok (.aaload, 1) := by decide +kernel
theorem dX8_toolAt_19 : decode cX8_toolAt 19 = .ok (.goto 4, 3) := by decide +kernel
theorem dX8_toolAt_22 : decode cX8_toolAt 22 = .ok (.aconst_null, 1) := by decide +kernel
theorem dX8_toolAt_23 : decode cX8_toolAt 23 = .ok (.areturn, 1) := by decide +kernel
theorem dX8_newTool_0 : decode cX8_newTool 0 = .ok (.iload_n 1, 1) := by decide +kernel
theorem dX8_newTool_1 : decode cX8_newTool 1 = .ok (.tableswitch 129 1 6 #[39, 54, 69, 84, 99, 114], 39) := by decide +kernel
theorem dX8_newTool_40 : decode cX8_newTool 40 = .ok (.new 135, 3) := by decide +kernel
theorem dX8_newTool_43 : decode cX8_newTool 43 = .ok (.dup, 1) := by decide +kernel
theorem dX8_newTool_44 : decode cX8_newTool 44 = .ok (.iload_n 1, 1) := by decide +kernel
theorem dX8_newTool_45 : decode cX8_newTool 45 = .ok (.iload_n 2, 1) := by decide +kernel
theorem dX8_newTool_46 : decode cX8_newTool 46 = .ok (.iload_n 3, 1) := by decide +kernel
theorem dX8_newTool_47 : decode cX8_newTool 47 = .ok (.aload_n 0, 1) := by decide +kernel
theorem dX8_newTool_48 : decode cX8_newTool 48 = .ok (.getfield 10, 3) := by decide +kernel
theorem dX8_newTool_51 : decode cX8_newTool 51 = .ok (.invokespecial 137, 3) := by decide +kernel
theorem dX8_newTool_54 : decode cX8_newTool 54 = .ok (.areturn, 1) := by decide +kernel
theorem dX8_newTool_55 : decode cX8_newTool 55 = .ok (.new 140, 3) := by decide +kernel
theorem dX8_newTool_58 : decode cX8_newTool 58 = .ok (.dup, 1) := by decide +kernel
theorem dX8_newTool_59 : decode cX8_newTool 59 = .ok (.iload_n 1, 1) := by decide +kernel
theorem dX8_newTool_60 : decode cX8_newTool 60 = .ok (.iload_n 2, 1) := by decide +kernel
theorem dX8_newTool_61 : decode cX8_newTool 61 = .ok (.iload_n 3, 1) := by decide +kernel
theorem dX8_newTool_62 : decode cX8_newTool 62 = .ok (.aload_n 0, 1) := by decide +kernel
theorem dX8_newTool_63 : decode cX8_newTool 63 = .ok (.getfield 10, 3) := by decide +kernel
theorem dX8_newTool_66 : decode cX8_newTool 66 = .ok (.invokespecial 142, 3) := by decide +kernel
theorem dX8_newTool_69 : decode cX8_newTool 69 = .ok (.areturn, 1) := by decide +kernel
theorem dX8_newTool_70 : decode cX8_newTool 70 = .ok (.new 143, 3) := by decide +kernel
theorem dX8_newTool_73 : decode cX8_newTool 73 = .ok (.dup, 1) := by decide +kernel
theorem dX8_newTool_74 : decode cX8_newTool 74 = .ok (.iload_n 1, 1) := by decide +kernel
theorem dX8_newTool_75 : decode cX8_newTool 75 = .ok (.iload_n 2, 1) := by decide +kernel
theorem dX8_newTool_76 : decode cX8_newTool 76 = .ok (.iload_n 3, 1) := by decide +kernel
theorem dX8_newTool_77 : decode cX8_newTool 77 = .ok (.aload_n 0, 1) := by decide +kernel
theorem dX8_newTool_78 : decode cX8_newTool 78 = .ok (.getfield 10, 3) := by decide +kernel
theorem dX8_newTool_81 : decode cX8_newTool 81 = .ok (.invokespecial 145, 3) := by decide +kernel
theorem dX8_newTool_84 : decode cX8_newTool 84 = .ok (.areturn, 1) := by decide +kernel
theorem dX8_newTool_85 : decode cX8_newTool 85 = .ok (.new 146, 3) := by decide +kernel
theorem dX8_newTool_88 : decode cX8_newTool 88 = .ok (.dup, 1) := by decide +kernel
theorem dX8_newTool_89 : decode cX8_newTool 89 = .ok (.iload_n 1, 1) := by decide +kernel
theorem dX8_newTool_90 : decode cX8_newTool 90 = .ok (.iload_n 2, 1) := by decide +kernel
theorem dX8_newTool_91 : decode cX8_newTool 91 = .ok (.iload_n 3, 1) := by decide +kernel
theorem dX8_newTool_92 : decode cX8_newTool 92 = .ok (.aload_n 0, 1) := by decide +kernel
theorem dX8_newTool_93 : decode cX8_newTool 93 = .ok (.getfield 10, 3) := by decide +kernel
theorem dX8_newTool_96 : decode cX8_newTool 96 = .ok (.invokespecial 148, 3) := by decide +kernel
theorem dX8_newTool_99 : decode cX8_newTool 99 = .ok (.areturn, 1) := by decide +kernel
theorem dX8_newTool_100 : decode cX8_newTool 100 = .ok (.new 149, 3) := by decide +kernel
theorem dX8_newTool_103 : decode cX8_newTool 103 = .ok (.dup, 1) := by decide +kernel
theorem dX8_newTool_104 : decode cX8_newTool 104 = .ok (.iload_n 1, 1) := by decide +kernel
theorem dX8_newTool_105 : decode cX8_newTool 105 = .ok (.iload_n 2, 1) := by decide +kernel
theorem dX8_newTool_106 : decode cX8_newTool 106 = .ok (.iload_n 3, 1) := by decide +kernel
theorem dX8_newTool_107 : decode cX8_newTool 107 = .ok (.aload_n 0, 1) := by decide +kernel
theorem dX8_newTool_108 : decode cX8_newTool 108 = .ok (.getfield 10, 3) := by decide +kernel
theorem dX8_newTool_111 : decode cX8_newTool 111 = .ok (.invokespecial 151, 3) := by decide +kernel
theorem dX8_newTool_114 : decode cX8_newTool 114 = .ok (.areturn, 1) := by decide +kernel
theorem dX8_newTool_115 : decode cX8_newTool 115 = .ok (.new 152, 3) := by decide +kernel
theorem dX8_newTool_118 : decode cX8_newTool 118 = .ok (.dup, 1) := by decide +kernel
theorem dX8_newTool_119 : decode cX8_newTool 119 = .ok (.iload_n 1, 1) := by decide +kernel
theorem dX8_newTool_120 : decode cX8_newTool 120 = .ok (.iload_n 2, 1) := by decide +kernel
theorem dX8_newTool_121 : decode cX8_newTool 121 = .ok (.iload_n 3, 1) := by decide +kernel
theorem dX8_newTool_122 : decode cX8_newTool 122 = .ok (.aload_n 0, 1) := by decide +kernel
theorem dX8_newTool_123 : decode cX8_newTool 123 = .ok (.getfield 10, 3) := by decide +kernel
theorem dX8_newTool_126 : decode cX8_newTool 126 = .ok (.invokespecial 154, 3) := by decide +kernel
theorem dX8_newTool_129 : decode cX8_newTool 129 = .ok (.areturn, 1) := by decide +kernel
theorem dX8_newTool_130 : decode cX8_newTool 130 = .ok (.new 16, 3) := by decide +kernel
theorem dX8_newTool_133 : decode cX8_newTool 133 = .ok (.dup, 1) := by decide +kernel
theorem dX8_newTool_134 : decode cX8_newTool 134 = .ok (.iload_n 1, 1) := by decide +kernel
theorem dX8_newTool_135 : decode cX8_newTool 135 = .ok (.iload_n 2, 1) := by decide +kernel
theorem dX8_newTool_136 : decode cX8_newTool 136 = .ok (.iload_n 3, 1) := by decide +kernel
theorem dX8_newTool_137 : decode cX8_newTool 137 = .ok (.aload_n 0, 1) := by decide +kernel
theorem dX8_newTool_138 : decode cX8_newTool 138 = .ok (.getfield 10, 3) := by decide +kernel
theorem dX8_newTool_141 : decode cX8_newTool 141 = .ok (.invokespecial 155, 3) := by decide +kernel
theorem dX8_newTool_144 : decode cX8_newTool 144 = .ok (.areturn, 1) := by decide +kernel
theorem dX8_hasAnswer_0 : decode cX8_hasAnswer 0 = .ok (.iload_n 1, 1) := by decide +kernel
theorem dX8_hasAnswer_1 : decode cX8_hasAnswer 1 = .ok (.tableswitch 42 3 5 #[27, 32, 37], 27) := by decide +kernel
theorem dX8_hasAnswer_28 : decode cX8_hasAnswer 28 = .ok (.aload_n 0, 1) := by decide +kernel
theorem dX8_hasAnswer_29 : decode cX8_hasAnswer 29 = .ok (.invokevirtual 156, 3) := by decide +kernel
theorem dX8_hasAnswer_32 : decode cX8_hasAnswer 32 = .ok (.ireturn, 1) := by decide +kernel
theorem dX8_hasAnswer_33 : decode cX8_hasAnswer 33 = .ok (.aload_n 0, 1) := by decide +kernel
theorem dX8_hasAnswer_34 : decode cX8_hasAnswer 34 = .ok (.invokevirtual 125, 3) := by decide +kernel
theorem dX8_hasAnswer_37 : decode cX8_hasAnswer 37 = .ok (.ireturn, 1) := by decide +kernel
theorem dX8_hasAnswer_38 : decode cX8_hasAnswer 38 = .ok (.aload_n 0, 1) := by decide +kernel
theorem dX8_hasAnswer_39 : decode cX8_hasAnswer 39 = .ok (.invokevirtual 129, 3) := by decide +kernel
theorem dX8_hasAnswer_42 : decode cX8_hasAnswer 42 = .ok (.ireturn, 1) := by decide +kernel
theorem dX8_hasAnswer_43 : decode cX8_hasAnswer 43 = .ok (.iconst 1, 1) := by decide +kernel
theorem dX8_hasAnswer_44 : decode cX8_hasAnswer 44 = .ok (.ireturn, 1) := by decide +kernel
theorem dX8_answerOf_0 : decode cX8_answerOf 0 = .ok (.iload_n 1, 1) := by decide +kernel
theorem dX8_answerOf_1 : decode cX8_answerOf 1 = .ok (.tableswitch 73 0 5 #[39, 45, 51, 56, 61, 67], 39) := by decide +kernel
theorem dX8_answerOf_40 : decode cX8_answerOf 40 = .ok (.aload_n 0, 1) := by decide +kernel
theorem dX8_answerOf_41 : decode cX8_answerOf 41 = .ok (.iload_n 2, 1) := by decide +kernel
theorem dX8_answerOf_42 : decode cX8_answerOf 42 = .ok (.invokevirtual 100, 3) := by decide +kernel
theorem dX8_answerOf_45 : decode cX8_answerOf 45 = .ok (.ireturn, 1) := by decide +kernel
theorem dX8_answerOf_46 : decode cX8_answerOf 46 = .ok (.aload_n 0, 1) := by decide +kernel
theorem dX8_answerOf_47 : decode cX8_answerOf 47 = .ok (.iload_n 2, 1) := by decide +kernel
theorem dX8_answerOf_48 : decode cX8_answerOf 48 = .ok (.invokevirtual 159, 3) := by decide +kernel
theorem dX8_answerOf_51 : decode cX8_answerOf 51 = .ok (.ireturn, 1) := by decide +kernel
theorem dX8_answerOf_52 : decode cX8_answerOf 52 = .ok (.aload_n 0, 1) := by decide +kernel
theorem dX8_answerOf_53 : decode cX8_answerOf 53 = .ok (.invokevirtual 113, 3) := by decide +kernel
theorem dX8_answerOf_56 : decode cX8_answerOf 56 = .ok (.ireturn, 1) := by decide +kernel
theorem dX8_answerOf_57 : decode cX8_answerOf 57 = .ok (.aload_n 0, 1) := by decide +kernel
theorem dX8_answerOf_58 : decode cX8_answerOf 58 = .ok (.invokevirtual 80, 3) := by decide +kernel
theorem dX8_answerOf_61 : decode cX8_answerOf 61 = .ok (.ireturn, 1) := by decide +kernel
theorem dX8_answerOf_62 : decode cX8_answerOf 62 = .ok (.aload_n 0, 1) := by decide +kernel
theorem dX8_answerOf_63 : decode cX8_answerOf 63 = .ok (.iload_n 2, 1) := by decide +kernel
theorem dX8_answerOf_64 : decode cX8_answerOf 64 = .ok (.invokevirtual 103, 3) := by decide +kernel
theorem dX8_answerOf_67 : decode cX8_answerOf 67 = .ok (.ireturn, 1) := by decide +kernel
theorem dX8_answerOf_68 : decode cX8_answerOf 68 = .ok (.aload_n 0, 1) := by decide +kernel
theorem dX8_answerOf_69 : decode cX8_answerOf 69 = .ok (.iload_n 2, 1) := by decide +kernel
theorem dX8_answerOf_70 : decode cX8_answerOf 70 = .ok (.invokevirtual 77, 3) := by decide +kernel
theorem dX8_answerOf_73 : decode cX8_answerOf 73 = .ok (.ireturn, 1) := by decide +kernel
theorem dX8_answerOf_74 : decode cX8_answerOf 74 = .ok (.bipush (-2), 2) := by decide +kernel
theorem dX8_answerOf_76 : decode cX8_answerOf 76 = .ok (.ireturn, 1) := by decide +kernel
theorem dX8_pay_0 : decode cX8_pay 0 = .ok (.iload_n 1, 1) := by decide +kernel
theorem dX8_pay_1 : decode cX8_pay 1 = .ok (.invokestatic 70, 3) := by decide +kernel
theorem dX8_pay_4 : decode cX8_pay 4 = .ok (.ifCond .eq 14, 3) := by decide +kernel
theorem dX8_pay_7 : decode cX8_pay 7 = .ok (.aload_n 0, 1) := by decide +kernel
theorem dX8_pay_8 : decode cX8_pay 8 = .ok (.getfield 22, 3) := by decide +kernel
theorem dX8_pay_11 : decode cX8_pay 11 = .ok (.iload_n 1, 1) := by decide +kernel
theorem dX8_pay_12 : decode cX8_pay 12 = .ok (.dup2, 1) := by decide +kernel
theorem dX8_pay_13 : decode cX8_pay 13 = .ok (.laload, 1) := by decide +kernel
theorem dX8_pay_14 : decode cX8_pay 14 = .ok (.iload_n 2, 1) := by decide +kernel
theorem dX8_pay_15 : decode cX8_pay 15 = .ok (.i2l, 1) := by decide +kernel
theorem dX8_pay_16 : decode cX8_pay 16 = .ok (.ladd, 1) := by decide +kernel
theorem dX8_pay_17 : decode cX8_pay 17 = .ok (.lastore, 1) := by decide +kernel
theorem dX8_pay_18 : decode cX8_pay 18 = .ok (.return_, 1) := by decide +kernel
theorem dX8_toolsThatAre_0 : decode cX8_toolsThatAre 0 = .ok (.iconst 0, 1) := by decide +kernel
theorem dX8_toolsThatAre_1 : decode cX8_toolsThatAre 1 = .ok (.istore_n 2, 1) := by decide +kernel
theorem dX8_toolsThatAre_2 : decode cX8_toolsThatAre 2 = .ok (.aload_n 0, 1) := by decide +kernel
theorem dX8_toolsThatAre_3 : decode cX8_toolsThatAre 3 = .ok (.getfield 18, 3) := by decide +kernel
theorem dX8_toolsThatAre_6 : decode cX8_toolsThatAre 6 = .ok (.astore_n 3, 1) := by decide +kernel
theorem dX8_toolsThatAre_7 : decode cX8_toolsThatAre 7 = .ok (.aload_n 3, 1) := by decide +kernel
theorem dX8_toolsThatAre_8 : decode cX8_toolsThatAre 8 = .ok (.arraylength, 1) := by decide +kernel
theorem dX8_toolsThatAre_9 : decode cX8_toolsThatAre 9 = .ok (.istore 4, 2) := by decide +kernel
theorem dX8_toolsThatAre_11 : decode cX8_toolsThatAre 11 = .ok (.iconst 0, 1) := by decide +kernel
theorem dX8_toolsThatAre_12 : decode cX8_toolsThatAre 12 = .ok (.istore 5, 2) := by decide +kernel
theorem dX8_toolsThatAre_14 : decode cX8_toolsThatAre 14 = .ok (.iload 5, 2) := by decide +kernel
theorem dX8_toolsThatAre_16 : decode cX8_toolsThatAre 16 = .ok (.iload 4, 2) := by decide +kernel
theorem dX8_toolsThatAre_18 : decode cX8_toolsThatAre 18 = .ok (.if_icmp .ge 32, 3) := by decide +kernel
theorem dX8_toolsThatAre_21 : decode cX8_toolsThatAre 21 = .ok (.aload_n 3, 1) := by decide +kernel
theorem dX8_toolsThatAre_22 : decode cX8_toolsThatAre 22 = .ok (.iload 5, 2) := by decide +kernel
theorem dX8_toolsThatAre_24 : decode cX8_toolsThatAre 24 = .ok (.aaload, 1) := by decide +kernel
theorem dX8_toolsThatAre_25 : decode cX8_toolsThatAre 25 = .ok (.astore 6, 2) := by decide +kernel
theorem dX8_toolsThatAre_27 : decode cX8_toolsThatAre 27 = .ok (.aload 6, 2) := by decide +kernel
theorem dX8_toolsThatAre_29 : decode cX8_toolsThatAre 29 = .ok (.ifnull 15, 3) := by decide +kernel
theorem dX8_toolsThatAre_32 : decode cX8_toolsThatAre 32 = .ok (.aload 6, 2) := by decide +kernel
theorem dX8_toolsThatAre_34 : decode cX8_toolsThatAre 34 = .ok (.getfield 74, 3) := by decide +kernel
theorem dX8_toolsThatAre_37 : decode cX8_toolsThatAre 37 = .ok (.iload_n 1, 1) := by decide +kernel
theorem dX8_toolsThatAre_38 : decode cX8_toolsThatAre 38 = .ok (.if_icmp .ne 6, 3) := by decide +kernel
theorem dX8_toolsThatAre_41 : decode cX8_toolsThatAre 41 = .ok (.iinc 2 1, 3) := by decide +kernel
theorem dX8_toolsThatAre_44 : decode cX8_toolsThatAre 44 = .ok (.iinc 5 1, 3) := by decide +kernel
theorem dX8_toolsThatAre_47 : decode cX8_toolsThatAre 47 = .ok (.goto (-33), 3) := by decide +kernel
theorem dX8_toolsThatAre_50 : decode cX8_toolsThatAre 50 = .ok (.iload_n 2, 1) := by decide +kernel
theorem dX8_toolsThatAre_51 : decode cX8_toolsThatAre 51 = .ok (.ireturn, 1) := by decide +kernel
theorem dX9_init_0 : decode cX9_init 0 = .ok (.aload_n 0, 1) := by decide +kernel
theorem dX9_init_1 : decode cX9_init 1 = .ok (.invokespecial 1, 3) := by decide +kernel
theorem dX9_init_4 : decode cX9_init 4 = .ok (.aload_n 0, 1) := by decide +kernel
theorem dX9_init_5 : decode cX9_init 5 = .ok (.bipush 24, 2) := by decide +kernel
theorem dX9_init_7 : decode cX9_init 7 = .ok (.newarray .int, 2) := by decide +kernel
theorem dX9_init_9 : decode cX9_init 9 = .ok (.putfield 7, 3) := by decide +kernel
theorem dX9_init_12 : decode cX9_init 12 = .ok (.aload_n 0, 1) := by decide +kernel
theorem dX9_init_13 : decode cX9_init 13 = .ok (.bipush 24, 2) := by decide +kernel
theorem dX9_init_15 : decode cX9_init 15 = .ok (.newarray .int, 2) := by decide +kernel
theorem dX9_init_17 : decode cX9_init 17 = .ok (.putfield 13, 3) := by decide +kernel
theorem dX9_init_20 : decode cX9_init 20 = .ok (.aload_n 0, 1) := by decide +kernel
theorem dX9_init_21 : decode cX9_init 21 = .ok (.bipush 24, 2) := by decide +kernel
theorem dX9_init_23 : decode cX9_init 23 = .ok (.newarray .int, 2) := by decide +kernel
theorem dX9_init_25 : decode cX9_init 25 = .ok (.putfield 16, 3) := by decide +kernel
theorem dX9_init_28 : decode cX9_init 28 = .ok (.aload_n 0, 1) := by decide +kernel
theorem dX9_init_29 : decode cX9_init 29 = .ok (.bipush 24, 2) := by decide +kernel
theorem dX9_init_31 : decode cX9_init 31 = .ok (.newarray .int, 2) := by decide +kernel
theorem dX9_init_33 : decode cX9_init 33 = .ok (.putfield 19, 3) := by decide +kernel
theorem dX9_init_36 : decode cX9_init 36 = .ok (.aload_n 0, 1) := by decide +kernel
theorem dX9_init_37 : decode cX9_init 37 = .ok (.bipush 24, 2) := by decide +kernel
theorem dX9_init_39 : decode cX9_init 39 = .ok (.newarray .int, 2) := by decide +kernel
theorem dX9_init_41 : decode cX9_init 41 = .ok (.putfield 22, 3) := by decide +kernel
theorem dX9_init_44 : decode cX9_init 44 = .ok (.aload_n 0, 1) := by decide +kernel
theorem dX9_init_45 : decode cX9_init 45 = .ok (.bipush 24, 2) := by decide +kernel
theorem dX9_init_47 : decode cX9_init 47 = .ok (.newarray .int, 2) := by decide +kernel
theorem dX9_init_49 : decode cX9_init 49 = .ok (.putfield 25, 3) := by decide +kernel
theorem dX9_init_52 : decode cX9_init 52 = .ok (.aload_n 0, 1) := by decide +kernel
theorem dX9_init_53 : decode cX9_init 53 = .ok (.bipush 24, 2) := by decide +kernel
theorem dX9_init_55 : decode cX9_init 55 = .ok (.newarray .int, 2) := by decide +kernel
theorem dX9_init_57 : decode cX9_init 57 = .ok (.putfield 28, 3) := by decide +kernel
theorem dX9_init_60 : decode cX9_init 60 = .ok (.aload_n 0, 1) := by decide +kernel
theorem dX9_init_61 : decode cX9_init 61 = .ok (.bipush 6, 2) := by decide +kernel
theorem dX9_init_63 : decode cX9_init 63 = .ok (.newarray .long, 2) := by decide +kernel
theorem dX9_init_65 : decode cX9_init 65 = .ok (.putfield 31, 3) := by decide +kernel
theorem dX9_init_68 : decode cX9_init 68 = .ok (.aload_n 0, 1) := by decide +kernel
theorem dX9_init_69 : decode cX9_init 69 = .ok (.bipush 16, 2) := by decide +kernel
theorem dX9_init_71 : decode cX9_init 71 = .ok (.newarray .int, 2) := by decide +kernel
theorem dX9_init_73 : decode cX9_init 73 = .ok (.putfield 35, 3) := by decide +kernel
theorem dX9_init_76 : decode cX9_init 76 = .ok (.aload_n 0, 1) := by decide +kernel
theorem dX9_init_77 : decode cX9_init 77 = .ok (.iconst 0, 1) := by decide +kernel
theorem dX9_init_78 : decode cX9_init 78 = .ok (.putfield 38, 3) := by decide +kernel
theorem dX9_init_81 : decode cX9_init 81 = .ok (.return_, 1) := by decide +kernel
theorem dX9_in_0 : decode cX9_in 0 = .ok (.iload_n 0, 1) := by decide +kernel
theorem dX9_in_1 : decode cX9_in 1 = .ok (.iload_n 1, 1) := by decide +kernel
theorem dX9_in_2 : decode cX9_in 2 = .ok (.if_icmp .lt 12, 3) := by decide +kernel
theorem dX9_in_5 : decode cX9_in 5 = .ok (.iload_n 0, 1) := by decide +kernel
theorem dX9_in_6 : decode cX9_in 6 = .ok (.iload_n 2, 1) := by decide +kernel
theorem dX9_in_7 : decode cX9_in 7 = .ok (.if_icmp .gt 7, 3) := by decide +kernel
theorem dX9_in_10 : decode cX9_in 10 = .ok (.iconst 1, 1) := by decide +kernel
theorem dX9_in_11 : decode cX9_in 11 = .ok (.goto 4, 3) := by decide +kernel
theorem dX9_in_14 : decode cX9_in 14 = .ok (.iconst 0, 1) := by decide +kernel
theorem dX9_in_15 : decode cX9_in 15 = .ok (.ireturn, 1) := by decide +kernel
theorem dX9_isTool_0 : decode cX9_isTool 0 = .ok (.iload_n 1, 1) := by decide +kernel
theorem dX9_isTool_1 : decode cX9_isTool 1 = .ok (.iconst 0, 1) := by decide +kernel
theorem dX9_isTool_2 : decode cX9_isTool 2 = .ok (.aload_n 0, 1) := by decide +kernel
theorem dX9_isTool_3 : decode cX9_isTool 3 = .ok (.getfield 42, 3) := by decide +kernel
theorem dX9_isTool_6 : decode cX9_isTool 6 = .ok (.iconst 1, 1) := by decide +kernel
theorem dX9_isTool_7 : decode cX9_isTool 7 = .ok (.isub, 1) := by decide +kernel
theorem dX9_isTool_8 : decode cX9_isTool 8 = .ok (.invokestatic 45, 3) := by decide +kernel
theorem dX9_isTool_11 : decode cX9_isTool 11 = .ok (.ireturn, 1) := by decide +kernel
theorem dX9_tool_0 : decode cX9_tool 0 = .ok (.iload_n 1, 1) := by decide +kernel
theorem dX9_tool_1 : decode cX9_tool 1 = .ok (.iconst 0, 1) := by decide +kernel
theorem dX9_tool_2 : decode cX9_tool 2 = .ok (.bipush 6, 2) := by decide +kernel
theorem dX9_tool_4 : decode cX9_tool 4 = .ok (.invokestatic 45, 3) := by decide +kernel
theorem dX9_tool_7 : decode cX9_tool 7 = .ok (.ifCond .eq 24, 3) := by decide +kernel
theorem dX9_tool_10 : decode cX9_tool 10 = .ok (.iload_n 2, 1) := by decide +kernel
theorem dX9_tool_11 : decode cX9_tool 11 = .ok (.iconst 1, 1) := by decide +kernel
theorem dX9_tool_12 : decode cX9_tool 12 = .ok (.sipush 1000, 3) := by decide +kernel
theorem dX9_tool_15 : decode cX9_tool 15 = .ok (.invokestatic 45, 3) := by decide +kernel
theorem dX9_tool_18 : decode cX9_tool 18 = .ok (.ifCond .eq 13, 3) := by decide +kernel
theorem dX9_tool_21 : decode cX9_tool 21 = .ok (.iload_n 3, 1) := by decide +kernel
theorem dX9_tool_22 : decode cX9_tool 22 = .ok (.iconst 0, 1) := by decide +kernel
theorem dX9_tool_23 : decode cX9_tool 23 = .ok (.ldc 49, 2) := by decide +kernel
theorem dX9_tool_25 : decode cX9_tool 25 = .ok (.invokestatic 45, 3) := by decide +kernel
theorem dX9_tool_28 : decode cX9_tool 28 = .ok (.ifCond .ne 6, 3) := by decide +kernel
theorem dX9_tool_31 : decode cX9_tool 31 = .ok (.bipush (-2), 2) := by decide +kernel
theorem dX9_tool_33 : decode cX9_tool 33 = .ok (.ireturn, 1) := by decide +kernel
theorem dX9_tool_34 : decode cX9_tool 34 = .ok (.aload_n 0, 1) := by decide +kernel
theorem dX9_tool_35 : decode cX9_tool 35 = .ok (.getfield 42, 3) := by decide +kernel
theorem dX9_tool_38 : decode cX9_tool 38 = .ok (.bipush 24, 2) := by decide +kernel
theorem dX9_tool_40 : decode cX9_tool 40 = .ok (.if_icmp .ne 6, 3) := by decide +kernel
theorem dX9_tool_43 : decode cX9_tool 43 = .ok (.bipush (-4), 2) := by decide +kernel
theorem dX9_tool_45 : decode cX9_tool 45 = .ok (.ireturn, 1) := by decide +kernel
theorem dX9_tool_46 : decode cX9_tool 46 = .ok (.aload_n 0, 1) := by decide +kernel
theorem dX9_tool_47 : decode cX9_tool 47 = .ok (.getfield 7, 3) := by decide +kernel
theorem dX9_tool_50 : decode cX9_tool 50 = .ok (.aload_n 0, 1) := by decide +kernel
theorem dX9_tool_51 : decode cX9_tool 51 = .ok (.getfield 42, 3) := by decide +kernel
theorem dX9_tool_54 : decode cX9_tool 54 = .ok (.iload_n 1, 1) := by decide +kernel
theorem dX9_tool_55 : decode cX9_tool 55 = .ok (.iastore, 1) := by decide +kernel
theorem dX9_tool_56 : decode cX9_tool 56 = .ok (.aload_n 0, 1) := by decide +kernel
theorem dX9_tool_57 : decode cX9_tool 57 = .ok (.getfield 13, 3) := by decide +kernel
theorem dX9_tool_60 : decode cX9_tool 60 = .ok (.aload_n 0, 1) := by decide +kernel
theorem dX9_tool_61 : decode cX9_tool 61 = .ok (.getfield 42, 3) := by decide +kernel
theorem dX9_tool_64 : decode cX9_tool 64 = .ok (.iload_n 2, 1) := by decide +kernel
theorem dX9_tool_65 : decode cX9_tool 65 = .ok (.iastore, 1) := by decide +kernel
theorem dX9_tool_66 : decode cX9_tool 66 = .ok (.aload_n 0, 1) := by decide +kernel
theorem dX9_tool_67 : decode cX9_tool 67 = .ok (.getfield 16, 3) := by decide +kernel
theorem dX9_tool_70 : decode cX9_tool 70 = .ok (.aload_n 0, 1) := by decide +kernel
theorem dX9_tool_71 : decode cX9_tool 71 = .ok (.getfield 42, 3) := by decide +kernel
theorem dX9_tool_74 : decode cX9_tool 74 = .ok (.iload_n 3, 1) := by decide +kernel
theorem dX9_tool_75 : decode cX9_tool 75 = .ok (.iastore, 1) := by decide +kernel
theorem dX9_tool_76 : decode cX9_tool 76 = .ok (.aload_n 0, 1) := by decide +kernel
theorem dX9_tool_77 : decode cX9_tool 77 = .ok (.dup, 1) := by decide +kernel
theorem dX9_tool_78 : decode cX9_tool 78 = .ok (.getfield 42, 3) := by decide +kernel
theorem dX9_tool_81 : decode cX9_tool 81 = .ok (.iconst 1, 1) := by decide +kernel
theorem dX9_tool_82 : decode cX9_tool 82 = .ok (.iadd, 1) := by decide +kernel
theorem dX9_tool_83 : decode cX9_tool 83 = .ok (.putfield 42, 3) := by decide +kernel
theorem dX9_tool_86 : decode cX9_tool 86 = .ok (.aload_n 0, 1) := by decide +kernel
theorem dX9_tool_87 : decode cX9_tool 87 = .ok (.getfield 42, 3) := by decide +kernel
theorem dX9_tool_90 : decode cX9_tool 90 = .ok (.iconst 1, 1) := by decide +kernel
theorem dX9_tool_91 : decode cX9_tool 91 = .ok (.isub, 1) := by decide +kernel
theorem dX9_tool_92 : decode cX9_tool 92 = .ok (.ireturn, 1) := by decide +kernel
theorem dX9_body_0 : decode cX9_body 0 = .ok (.aload_n 0, 1) := by decide +kernel
theorem dX9_body_1 : decode cX9_body 1 = .ok (.getfield 50, 3) := by decide +kernel
theorem dX9_body_4 : decode cX9_body 4 = .ok (.ifCond .eq 23, 3) := by decide +kernel
theorem dX9_body_7 : decode cX9_body 7 = .ok (.aload_n 0, 1) := by decide +kernel
theorem dX9_body_8 : decode cX9_body 8 = .ok (.getfield 35, 3) := by decide +kernel
theorem dX9_body_11 : decode cX9_body 11 = .ok (.aload_n 0, 1) := by decide +kernel
theorem dX9_body_12 : decode cX9_body 12 = .ok (.getfield 54, 3) := by decide +kernel
theorem dX9_body_15 : decode cX9_body 15 = .ok (.iload_n 1, 1) := by decide +kernel
theorem dX9_body_16 : decode cX9_body 16 = .ok (.iastore, 1) := by decide +kernel
theorem dX9_body_17 : decode cX9_body 17 = .ok (.aload_n 0, 1) := by decide +kernel
theorem dX9_body_18 : decode cX9_body 18 = .ok (.dup, 1) := by decide +kernel
theorem dX9_body_19 : decode cX9_body 19 = .ok (.getfield 54, 3) := by decide +kernel
theorem dX9_body_22 : decode cX9_body 22 = .ok (.iconst 1, 1) := by decide +kernel
theorem dX9_body_23 : decode cX9_body 23 = .ok (.iadd, 1) := by decide +kernel
theorem dX9_body_24 : decode cX9_body 24 = .ok (.putfield 54, 3) := by decide +kernel
theorem dX9_body_27 : decode cX9_body 27 = .ok (.return_, 1) := by decide +kernel
