theorem dX9_charge_0 : decode cX9_charge 0 = .ok (.aload_n 0, 1) := by decide +kernel
theorem dX9_charge_1 : decode cX9_charge 1 = .ok (.getfield 7, 3) := by decide +kernel
theorem dX9_charge_4 : decode cX9_charge 4 = .ok (.iload_n 1, 1) := by decide +kernel
theorem dX9_charge_5 : decode cX9_charge 5 = .ok (.iaload, 1) := by decide +kernel
theorem dX9_charge_6 : decode cX9_charge 6 = .ok (.istore_n 3, 1) := by decide +kernel
theorem dX9_charge_7 : decode cX9_charge 7 = .ok (.aload_n 0, 1) := by decide +kernel
theorem dX9_charge_8 : decode cX9_charge 8 = .ok (.getfield 13, 3) := by decide +kernel
theorem dX9_charge_11 : decode cX9_charge 11 = .ok (.iload_n 1, 1) := by decide +kernel
theorem dX9_charge_12 : decode cX9_charge 12 = .ok (.iaload, 1) := by decide +kernel
theorem dX9_charge_13 : decode cX9_charge 13 = .ok (.iload_n 2, 1) := by decide +kernel
theorem dX9_charge_14 : decode cX9_charge 14 = .ok (.imul, 1) := by decide +kernel
theorem dX9_charge_15 : decode cX9_charge 15 = .ok (.istore 4, 2) := by decide +kernel
theorem dX9_charge_17 : decode cX9_charge 17 = .ok (.iload_n 3, 1) := by decide +kernel
theorem dX9_charge_18 : decode cX9_charge 18 = .ok (.iconst 4, 1) := by decide +kernel
theorem dX9_charge_19 : decode cX9_charge 19 = .ok (.if_icmp .ne 8, 3) := by decide +kernel
theorem dX9_charge_22 : decode cX9_charge 22 = .ok (.aload_n 0, 1) := by decide +kernel
theorem dX9_charge_23 : decode cX9_charge 23 = .ok (.iconst 3, 1) := by decide +kernel
theorem dX9_charge_24 : decode cX9_charge 24 = .ok (.invokevirtual 57, 3) := by decide +kernel
theorem dX9_charge_27 : decode cX9_charge 27 = .ok (.iload_n 3, 1) := by decide +kernel
theorem dX9_charge_28 : decode cX9_charge 28 = .ok (.iconst 2, 1) := by decide +kernel
theorem dX9_charge_29 : decode cX9_charge 29 = .ok (.iconst 4, 1) := by decide +kernel
theorem dX9_charge_30 : decode cX9_charge 30 = .ok (.invokestatic 45, 3) := by decide +kernel
theorem dX9_charge_33 : decode cX9_charge 33 = .ok (.ifCond .eq 8, 3) := by decide +kernel
theorem dX9_charge_36 : decode cX9_charge 36 = .ok (.aload_n 0, 1) := by decide +kernel
theorem dX9_charge_37 : decode cX9_charge 37 = .ok (.iconst 2, 1) := by decide +kernel
theorem dX9_charge_38 : decode cX9_charge 38 = .ok (.invokevirtual 57, 3) := by decide +kernel
theorem dX9_charge_41 : decode cX9_charge 41 = .ok (.iload_n 3, 1) := by decide +kernel
theorem dX9_charge_42 : decode cX9_charge 42 = .ok (.bipush 6, 2) := by decide +kernel
theorem dX9_charge_44 : decode cX9_charge 44 = .ok (.if_icmp .ne 8, 3) := by decide +kernel
theorem dX9_charge_47 : decode cX9_charge 47 = .ok (.aload_n 0, 1) := by decide +kernel
theorem dX9_charge_48 : decode cX9_charge 48 = .ok (.iconst 4, 1) := by decide +kernel
theorem dX9_charge_49 : decode cX9_charge 49 = .ok (.invokevirtual 57, 3) := by decide +kernel
theorem dX9_charge_52 : decode cX9_charge 52 = .ok (.aload_n 0, 1) := by decide +kernel
theorem dX9_charge_53 : decode cX9_charge 53 = .ok (.iconst 1, 1) := by decide +kernel
theorem dX9_charge_54 : decode cX9_charge 54 = .ok (.invokevirtual 57, 3) := by decide +kernel
theorem dX9_charge_57 : decode cX9_charge 57 = .ok (.iload_n 2, 1) := by decide +kernel
theorem dX9_charge_58 : decode cX9_charge 58 = .ok (.bipush 7, 2) := by decide +kernel
theorem dX9_charge_60 : decode cX9_charge 60 = .ok (.if_icmp .le 10, 3) := by decide +kernel
theorem dX9_charge_63 : decode cX9_charge 63 = .ok (.iload_n 2, 1) := by decide +kernel
theorem dX9_charge_64 : decode cX9_charge 64 = .ok (.bipush 7, 2) := by decide +kernel
theorem dX9_charge_66 : decode cX9_charge 66 = .ok (.isub, 1) := by decide +kernel
theorem dX9_charge_67 : decode cX9_charge 67 = .ok (.goto 4, 3) := by decide +kernel
theorem dX9_charge_70 : decode cX9_charge 70 = .ok (.iconst 0, 1) := by decide +kernel
theorem dX9_charge_71 : decode cX9_charge 71 = .ok (.istore 5, 2) := by decide +kernel
theorem dX9_charge_73 : decode cX9_charge 73 = .ok (.iload_n 3, 1) := by decide +kernel
theorem dX9_charge_74 : decode cX9_charge 74 = .ok (.bipush 6, 2) := by decide +kernel
theorem dX9_charge_76 : decode cX9_charge 76 = .ok (.if_icmp .ne 18, 3) := by decide +kernel
theorem dX9_charge_79 : decode cX9_charge 79 = .ok (.iload 4, 2) := by decide +kernel
theorem dX9_charge_81 : decode cX9_charge 81 = .ok (.aload_n 0, 1) := by decide +kernel
theorem dX9_charge_82 : decode cX9_charge 82 = .ok (.getfield 16, 3) := by decide +kernel
theorem dX9_charge_85 : decode cX9_charge 85 = .ok (.iload_n 1, 1) := by decide +kernel
theorem dX9_charge_86 : decode cX9_charge 86 = .ok (.iaload, 1) := by decide +kernel
theorem dX9_charge_87 : decode cX9_charge 87 = .ok (.bipush 100, 2) := by decide +kernel
theorem dX9_charge_89 : decode cX9_charge 89 = .ok (.idiv, 1) := by decide +kernel
theorem dX9_charge_90 : decode cX9_charge 90 = .ok (.iadd, 1) := by decide +kernel
theorem dX9_charge_91 : decode cX9_charge 91 = .ok (.goto 44, 3) := by decide +kernel
theorem dX9_charge_94 : decode cX9_charge 94 = .ok (.iload_n 3, 1) := by decide +kernel
theorem dX9_charge_95 : decode cX9_charge 95 = .ok (.iconst 4, 1) := by decide +kernel
theorem dX9_charge_96 : decode cX9_charge 96 = .ok (.if_icmp .ne 19, 3) := by decide +kernel
theorem dX9_charge_99 : decode cX9_charge 99 = .ok (.iconst 2, 1) := by decide +kernel
theorem dX9_charge_100 : decode cX9_charge 100 = .ok (.iload 4, 2) := by decide +kernel
theorem dX9_charge_102 : decode cX9_charge 102 = .ok (.iconst 3, 1) := by decide +kernel
theorem dX9_charge_103 : decode cX9_charge 103 = .ok (.iload_n 2, 1) := by decide +kernel
theorem dX9_charge_104 : decode cX9_charge 104 = .ok (.imul, 1) := by decide +kernel
theorem dX9_charge_105 : decode cX9_charge 105 = .ok (.iadd, 1) := by decide +kernel
theorem dX9_charge_106 : decode cX9_charge 106 = .ok (.imul, 1) := by decide +kernel
theorem dX9_charge_107 : decode cX9_charge 107 = .ok (.iconst 5, 1) := by decide +kernel
theorem dX9_charge_108 : decode cX9_charge 108 = .ok (.iload 5, 2) := by decide +kernel
theorem dX9_charge_110 : decode cX9_charge 110 = .ok (.imul, 1) := by decide +kernel
theorem dX9_charge_111 : decode cX9_charge 111 = .ok (.isub, 1) := by decide +kernel
theorem dX9_charge_112 : decode cX9_charge 112 = .ok (.goto 23, 3) := by decide +kernel
theorem dX9_charge_115 : decode cX9_charge 115 = .ok (.iload_n 3, 1) := by decide +kernel
theorem dX9_charge_116 : decode cX9_charge 116 = .ok (.iconst 2, 1) := by decide +kernel
theorem dX9_charge_117 : decode cX9_charge 117 = .ok (.iconst 3, 1) := by decide +kernel
theorem dX9_charge_118 : decode cX9_charge 118 = .ok (.invokestatic 45, 3) := by decide +kernel
theorem dX9_charge_121 : decode cX9_charge 121 = .ok (.ifCond .eq 12, 3) := by decide +kernel
theorem dX9_charge_124 : decode cX9_charge 124 = .ok (.iload 4, 2) := by decide +kernel
theorem dX9_charge_126 : decode cX9_charge 126 = .ok (.iconst 3, 1) := by decide +kernel
theorem dX9_charge_127 : decode cX9_charge 127 = .ok (.iload_n 2, 1) := by decide +kernel
theorem dX9_charge_128 : decode cX9_charge 128 = .ok (.imul, 1) := by decide +kernel
theorem dX9_charge_129 : decode cX9_charge 129 = .ok (.iadd, 1) := by decide +kernel
theorem dX9_charge_130 : decode cX9_charge 130 = .ok (.goto 5, 3) := by decide +kernel
theorem dX9_charge_133 : decode cX9_charge 133 = .ok (.iload 4, 2) := by decide +kernel
theorem dX9_charge_135 : decode cX9_charge 135 = .ok (.ireturn, 1) := by decide +kernel
theorem dX9_wear_0 : decode cX9_wear 0 = .ok (.aload_n 0, 1) := by decide +kernel
theorem dX9_wear_1 : decode cX9_wear 1 = .ok (.getfield 7, 3) := by decide +kernel
theorem dX9_wear_4 : decode cX9_wear 4 = .ok (.iload_n 1, 1) := by decide +kernel
theorem dX9_wear_5 : decode cX9_wear 5 = .ok (.iaload, 1) := by decide +kernel
theorem dX9_wear_6 : decode cX9_wear 6 = .ok (.istore_n 3, 1) := by decide +kernel
theorem dX9_wear_7 : decode cX9_wear 7 = .ok (.iload_n 3, 1) := by decide +kernel
theorem dX9_wear_8 : decode cX9_wear 8 = .ok (.iconst 4, 1) := by decide +kernel
theorem dX9_wear_9 : decode cX9_wear 9 = .ok (.if_icmp .ne 9, 3) := by decide +kernel
theorem dX9_wear_12 : decode cX9_wear 12 = .ok (.aload_n 0, 1) := by decide +kernel
theorem dX9_wear_13 : decode cX9_wear 13 = .ok (.bipush 12, 2) := by decide +kernel
theorem dX9_wear_15 : decode cX9_wear 15 = .ok (.invokevirtual 57, 3) := by decide +kernel
theorem dX9_wear_18 : decode cX9_wear 18 = .ok (.iload_n 3, 1) := by decide +kernel
theorem dX9_wear_19 : decode cX9_wear 19 = .ok (.iconst 5, 1) := by decide +kernel
theorem dX9_wear_20 : decode cX9_wear 20 = .ok (.if_icmp .lt 9, 3) := by decide +kernel
theorem dX9_wear_23 : decode cX9_wear 23 = .ok (.aload_n 0, 1) := by decide +kernel
theorem dX9_wear_24 : decode cX9_wear 24 = .ok (.bipush 13, 2) := by decide +kernel
theorem dX9_wear_26 : decode cX9_wear 26 = .ok (.invokevirtual 57, 3) := by decide +kernel
theorem dX9_wear_29 : decode cX9_wear 29 = .ok (.aload_n 0, 1) := by decide +kernel
theorem dX9_wear_30 : decode cX9_wear 30 = .ok (.bipush 11, 2) := by decide +kernel
theorem dX9_wear_32 : decode cX9_wear 32 = .ok (.invokevirtual 57, 3) := by decide +kernel
theorem dX9_wear_35 : decode cX9_wear 35 = .ok (.iload_n 3, 1) := by decide +kernel
theorem dX9_wear_36 : decode cX9_wear 36 = .ok (.iconst 4, 1) := by decide +kernel
theorem dX9_wear_37 : decode cX9_wear 37 = .ok (.if_icmp .ne 17, 3) := by decide +kernel
theorem dX9_wear_40 : decode cX9_wear 40 = .ok (.iload_n 2, 1) := by decide +kernel
theorem dX9_wear_41 : decode cX9_wear 41 = .ok (.aload_n 0, 1) := by decide +kernel
theorem dX9_wear_42 : decode cX9_wear 42 = .ok (.getfield 19, 3) := by decide +kernel
theorem dX9_wear_45 : decode cX9_wear 45 = .ok (.iload_n 1, 1) := by decide +kernel
theorem dX9_wear_46 : decode cX9_wear 46 = .ok (.iaload, 1) := by decide +kernel
theorem dX9_wear_47 : decode cX9_wear 47 = .ok (.bipush 10, 2) := by decide +kernel
theorem dX9_wear_49 : decode cX9_wear 49 = .ok (.idiv, 1) := by decide +kernel
theorem dX9_wear_50 : decode cX9_wear 50 = .ok (.iadd, 1) := by decide +kernel
theorem dX9_wear_51 : decode cX9_wear 51 = .ok (.goto 15, 3) := by decide +kernel
theorem dX9_wear_54 : decode cX9_wear 54 = .ok (.iload_n 3, 1) := by decide +kernel
theorem dX9_wear_55 : decode cX9_wear 55 = .ok (.iconst 5, 1) := by decide +kernel
theorem dX9_wear_56 : decode cX9_wear 56 = .ok (.if_icmp .lt 9, 3) := by decide +kernel
theorem dX9_wear_59 : decode cX9_wear 59 = .ok (.iconst 3, 1) := by decide +kernel
theorem dX9_wear_60 : decode cX9_wear 60 = .ok (.iload_n 2, 1) := by decide +kernel
theorem dX9_wear_61 : decode cX9_wear 61 = .ok (.imul, 1) := by decide +kernel
theorem dX9_wear_62 : decode cX9_wear 62 = .ok (.goto 4, 3) := by decide +kernel
theorem dX9_wear_65 : decode cX9_wear 65 = .ok (.iload_n 2, 1) := by decide +kernel
theorem dX9_wear_66 : decode cX9_wear 66 = .ok (.ireturn, 1) := by decide +kernel
theorem dX9_check_0 : decode cX9_check 0 = .ok (.aload_n 0, 1) := by decide +kernel
theorem dX9_check_1 : decode cX9_check 1 = .ok (.getfield 7, 3) := by decide +kernel
theorem dX9_check_4 : decode cX9_check 4 = .ok (.iload_n 1, 1) := by decide +kernel
theorem dX9_check_5 : decode cX9_check 5 = .ok (.iaload, 1) := by decide +kernel
theorem dX9_check_6 : decode cX9_check 6 = .ok (.istore_n 2, 1) := by decide +kernel
theorem dX9_check_7 : decode cX9_check 7 = .ok (.iconst 0, 1) := by decide +kernel
theorem dX9_check_8 : decode cX9_check 8 = .ok (.istore_n 3, 1) := by decide +kernel
theorem dX9_check_9 : decode cX9_check 9 = .ok (.iload_n 2, 1) := by decide +kernel
theorem dX9_check_10 : decode cX9_check 10 = .ok (.iconst 3, 1) := by decide +kernel
theorem dX9_check_11 : decode cX9_check 11 = .ok (.if_icmp .eq 8, 3) := by decide +kernel
theorem dX9_check_14 : decode cX9_check 14 = .ok (.iload_n 2, 1) := by decide +kernel
theorem dX9_check_15 : decode cX9_check 15 = .ok (.iconst 4, 1) := by decide +kernel
theorem dX9_check_16 : decode cX9_check 16 = .ok (.if_icmp .ne 11, 3) := by decide +kernel
theorem dX9_check_19 : decode cX9_check 19 = .ok (.aload_n 0, 1) := by decide +kernel
theorem dX9_check_20 : decode cX9_check 20 = .ok (.bipush 22, 2) := by decide +kernel
theorem dX9_check_22 : decode cX9_check 22 = .ok (.invokevirtual 57, 3) := by decide +kernel
theorem dX9_check_25 : decode cX9_check 25 = .ok (.iconst 2, 1) := by decide +kernel
theorem dX9_check_26 : decode cX9_check 26 = .ok (.istore_n 3, 1) := by decide +kernel
theorem dX9_check_27 : decode cX9_check 27 = .ok (.iload_n 2, 1) := by decide +kernel
theorem dX9_check_28 : decode cX9_check 28 = .ok (.bipush 6, 2) := by decide +kernel
theorem dX9_check_30 : decode cX9_check 30 = .ok (.if_icmp .ne 11, 3) := by decide +kernel
theorem dX9_check_33 : decode cX9_check 33 = .ok (.aload_n 0, 1) := by decide +kernel
theorem dX9_check_34 : decode cX9_check 34 = .ok (.bipush 23, 2) := by decide +kernel
theorem dX9_check_36 : decode cX9_check 36 = .ok (.invokevirtual 57, 3) := by decide +kernel
theorem dX9_check_39 : decode cX9_check 39 = .ok (.iconst 4, 1) := by decide +kernel
theorem dX9_check_40 : decode cX9_check 40 = .ok (.istore_n 3, 1) := by decide +kernel
theorem dX9_check_41 : decode cX9_check 41 = .ok (.iload_n 2, 1) := by decide +kernel
theorem dX9_check_42 : decode cX9_check 42 = .ok (.ifCond .le 12, 3) := by decide +kernel
theorem dX9_check_45 : decode cX9_check 45 = .ok (.aload_n 0, 1) := by decide +kernel
theorem dX9_check_46 : decode cX9_check 46 = .ok (.bipush 21, 2) := by decide +kernel
theorem dX9_check_48 : decode cX9_check 48 = .ok (.invokevirtual 57, 3) := by decide +kernel
theorem dX9_check_51 : decode cX9_check 51 = .ok (.iinc 3 1, 3) := by decide +kernel
theorem dX9_check_54 : decode cX9_check 54 = .ok (.aload_n 0, 1) := by decide +kernel
theorem dX9_check_55 : decode cX9_check 55 = .ok (.bipush 20, 2) := by decide +kernel
theorem dX9_check_57 : decode cX9_check 57 = .ok (.invokevirtual 57, 3) := by decide +kernel
theorem dX9_check_60 : decode cX9_check 60 = .ok (.aload_n 0, 1) := by decide +kernel
theorem dX9_check_61 : decode cX9_check 61 = .ok (.getfield 19, 3) := by decide +kernel
theorem dX9_check_64 : decode cX9_check 64 = .ok (.iload_n 1, 1) := by decide +kernel
theorem dX9_check_65 : decode cX9_check 65 = .ok (.iaload, 1) := by decide +kernel
theorem dX9_check_66 : decode cX9_check 66 = .ok (.bipush 10, 2) := by decide +kernel
theorem dX9_check_68 : decode cX9_check 68 = .ok (.idiv, 1) := by decide +kernel
theorem dX9_check_69 : decode cX9_check 69 = .ok (.iload_n 3, 1) := by decide +kernel
theorem dX9_check_70 : decode cX9_check 70 = .ok (.iadd, 1) := by decide +kernel
theorem dX9_check_71 : decode cX9_check 71 = .ok (.ireturn, 1) := by decide +kernel
theorem dX9_deposit_0 : decode cX9_deposit 0 = .ok (.aload_n 0, 1) := by decide +kernel
theorem dX9_deposit_1 : decode cX9_deposit 1 = .ok (.getfield 7, 3) := by decide +kernel
theorem dX9_deposit_4 : decode cX9_deposit 4 = .ok (.iload_n 1, 1) := by decide +kernel
theorem dX9_deposit_5 : decode cX9_deposit 5 = .ok (.iaload, 1) := by decide +kernel
theorem dX9_deposit_6 : decode cX9_deposit 6 = .ok (.iconst 4, 1) := by decide +kernel
theorem dX9_deposit_7 : decode cX9_deposit 7 = .ok (.if_icmp .ne 9, 3) := by decide +kernel
theorem dX9_deposit_10 : decode cX9_deposit 10 = .ok (.aload_n 0, 1) := by decide +kernel
theorem dX9_deposit_11 : decode cX9_deposit 11 = .ok (.bipush 32, 2) := by decide +kernel
theorem dX9_deposit_13 : decode cX9_deposit 13 = .ok (.invokevirtual 57, 3) := by decide +kernel
theorem dX9_deposit_16 : decode cX9_deposit 16 = .ok (.aload_n 0, 1) := by decide +kernel
theorem dX9_deposit_17 : decode cX9_deposit 17 = .ok (.bipush 31, 2) := by decide +kernel
theorem dX9_deposit_19 : decode cX9_deposit 19 = .ok (.invokevirtual 57, 3) := by decide +kernel
theorem dX9_deposit_22 : decode cX9_deposit 22 = .ok (.aload_n 0, 1) := by decide +kernel
theorem dX9_deposit_23 : decode cX9_deposit 23 = .ok (.getfield 16, 3) := by decide +kernel
theorem dX9_deposit_26 : decode cX9_deposit 26 = .ok (.iload_n 1, 1) := by decide +kernel
theorem dX9_deposit_27 : decode cX9_deposit 27 = .ok (.iaload, 1) := by decide +kernel
theorem dX9_deposit_28 : decode cX9_deposit 28 = .ok (.iconst 2, 1) := by decide +kernel
theorem dX9_deposit_29 : decode cX9_deposit 29 = .ok (.idiv, 1) := by decide +kernel
theorem dX9_deposit_30 : decode cX9_deposit 30 = .ok (.aload_n 0, 1) := by decide +kernel
theorem dX9_deposit_31 : decode cX9_deposit 31 = .ok (.getfield 7, 3) := by decide +kernel
theorem dX9_deposit_34 : decode cX9_deposit 34 = .ok (.iload_n 1, 1) := by decide +kernel
theorem dX9_deposit_35 : decode cX9_deposit 35 = .ok (.iaload, 1) := by decide +kernel
theorem dX9_deposit_36 : decode cX9_deposit 36 = .ok (.iconst 4, 1) := by decide +kernel
theorem dX9_deposit_37 : decode cX9_deposit 37 = .ok (.if_icmp .ne 9, 3) := by decide +kernel
theorem dX9_deposit_40 : decode cX9_deposit 40 = .ok (.sipush 500, 3) := by decide +kernel
theorem dX9_deposit_43 : decode cX9_deposit 43 = .ok (.goto 4, 3) := by decide +kernel
theorem dX9_deposit_46 : decode cX9_deposit 46 = .ok (.iconst 0, 1) := by decide +kernel
theorem dX9_deposit_47 : decode cX9_deposit 47 = .ok (.iadd, 1) := by decide +kernel
theorem dX9_deposit_48 : decode cX9_deposit 48 = .ok (.ireturn, 1) := by decide +kernel
theorem dX9_isInsured_0 : decode cX9_isInsured 0 = .ok (.aload_n 0, 1) := by decide +kernel
theorem dX9_isInsured_1 : decode cX9_isInsured 1 = .ok (.getfield 7, 3) := by decide +kernel
theorem dX9_isInsured_4 : decode cX9_isInsured 4 = .ok (.iload_n 1, 1) := by decide +kernel
theorem dX9_isInsured_5 : decode cX9_isInsured 5 = .ok (.iaload, 1) := by decide +kernel
theorem dX9_isInsured_6 : decode cX9_isInsured 6 = .ok (.iconst 2, 1) := by decide +kernel
theorem dX9_isInsured_7 : decode cX9_isInsured 7 = .ok (.iconst 4, 1) := by decide +kernel
theorem dX9_isInsured_8 : decode cX9_isInsured 8 = .ok (.invokestatic 45, 3) := by decide +kernel
theorem dX9_isInsured_11 : decode cX9_isInsured 11 = .ok (.ireturn, 1) := by decide +kernel
theorem dX9_isServiced_0 : decode cX9_isServiced 0 = .ok (.aload_n 0, 1) := by decide +kernel
theorem dX9_isServiced_1 : decode cX9_isServiced 1 = .ok (.getfield 7, 3) := by decide +kernel
theorem dX9_isServiced_4 : decode cX9_isServiced 4 = .ok (.iload_n 1, 1) := by decide +kernel
theorem dX9_isServiced_5 : decode cX9_isServiced 5 = .ok (.iaload, 1) := by decide +kernel
theorem dX9_isServiced_6 : decode cX9_isServiced 6 = .ok (.iconst 3, 1) := by decide +kernel
theorem dX9_isServiced_7 : decode cX9_isServiced 7 = .ok (.if_icmp .lt 7, 3) := by decide +kernel
theorem dX9_isServiced_10 : decode cX9_isServiced 10 = .ok (.iconst 1, 1) := by decide +kernel
theorem dX9_isServiced_11 : decode cX9_isServiced 11 = .ok (.goto 4, 3) := by decide +kernel
theorem dX9_isServiced_14 : decode cX9_isServiced 14 = .ok (.iconst 0, 1) := by decide +kernel
theorem dX9_isServiced_15 : decode cX9_isServiced 15 = .ok (.ireturn, 1) := by decide +kernel
theorem dX9_premium_0 : decode cX9_premium 0 = .ok (.aload_n 0, 1) := by decide +kernel
theorem dX9_premium_1 : decode cX9_premium 1 = .ok (.getfield 7, 3) := by decide +kernel
theorem dX9_premium_4 : decode cX9_premium 4 = .ok (.iload_n 1, 1) := by decide +kernel
theorem dX9_premium_5 : decode cX9_premium 5 = .ok (.iaload, 1) := by decide +kernel
theorem dX9_premium_6 : decode cX9_premium 6 = .ok (.iconst 2, 1) := by decide +kernel
theorem dX9_premium_7 : decode cX9_premium 7 = .ok (.if_icmp .ne 20, 3) := by decide +kernel
theorem dX9_premium_10 : decode cX9_premium 10 = .ok (.aload_n 0, 1) := by decide +kernel
theorem dX9_premium_11 : decode cX9_premium 11 = .ok (.bipush 41, 2) := by decide +kernel
theorem dX9_premium_13 : decode cX9_premium 13 = .ok (.invokevirtual 57, 3) := by decide +kernel
theorem dX9_premium_16 : decode cX9_premium 16 = .ok (.iload_n 2, 1) := by decide +kernel
theorem dX9_premium_17 : decode cX9_premium 17 = .ok (.aload_n 0, 1) := by decide +kernel
theorem dX9_premium_18 : decode cX9_premium 18 = .ok (.iload_n 1, 1) := by decide +kernel
theorem dX9_premium_19 : decode cX9_premium 19 = .ok (.invokevirtual 61, 3) := by decide +kernel
theorem dX9_premium_22 : decode cX9_premium 22 = .ok (.bipush 100, 2) := by decide +kernel
theorem dX9_premium_24 : decode cX9_premium 24 = .ok (.idiv, 1) := by decide +kernel
theorem dX9_premium_25 : decode cX9_premium 25 = .ok (.imul, 1) := by decide +kernel
theorem dX9_premium_26 : decode cX9_premium 26 = .ok (.ireturn, 1) := by decide +kernel
theorem dX9_premium_27 : decode cX9_premium 27 = .ok (.aload_n 0, 1) := by decide +kernel
theorem dX9_premium_28 : decode cX9_premium 28 = .ok (.bipush 42, 2) := by decide +kernel
theorem dX9_premium_30 : decode cX9_premium 30 = .ok (.invokevirtual 57, 3) := by decide +kernel
theorem dX9_premium_33 : decode cX9_premium 33 = .ok (.aload_n 0, 1) := by decide +kernel
theorem dX9_premium_34 : decode cX9_premium 34 = .ok (.iload_n 1, 1) := by decide +kernel
theorem dX9_premium_35 : decode cX9_premium 35 = .ok (.invokevirtual 65, 3) := by decide +kernel
theorem dX9_premium_38 : decode cX9_premium 38 = .ok (.istore_n 3, 1) := by decide +kernel
theorem dX9_premium_39 : decode cX9_premium 39 = .ok (.iload_n 2, 1) := by decide +kernel
theorem dX9_premium_40 : decode cX9_premium 40 = .ok (.iload_n 3, 1) := by decide +kernel
theorem dX9_premium_41 : decode cX9_premium 41 = .ok (.aload_n 0, 1) := by decide +kernel
theorem dX9_premium_42 : decode cX9_premium 42 = .ok (.iload_n 1, 1) := by decide +kernel
theorem dX9_premium_43 : decode cX9_premium 43 = .ok (.invokevirtual 61, 3) := by decide +kernel
theorem dX9_premium_46 : decode cX9_premium 46 = .ok (.sipush 200, 3) := by decide +kernel
theorem dX9_premium_49 : decode cX9_premium 49 = .ok (.idiv, 1) := by decide +kernel
theorem dX9_premium_50 : decode cX9_premium 50 = .ok (.iadd, 1) := by decide +kernel
theorem dX9_premium_51 : decode cX9_premium 51 = .ok (.imul, 1) := by decide +kernel
theorem dX9_premium_52 : decode cX9_premium 52 = .ok (.ireturn, 1) := by decide +kernel
theorem dX9_due_0 : decode cX9_due 0 = .ok (.aload_n 0, 1) := by decide +kernel
theorem dX9_due_1 : decode cX9_due 1 = .ok (.bipush 43, 2) := by decide +kernel
theorem dX9_due_3 : decode cX9_due 3 = .ok (.invokevirtual 57, 3) := by decide +kernel
theorem dX9_due_6 : decode cX9_due 6 = .ok (.aload_n 0, 1) := by decide +kernel
theorem dX9_due_7 : decode cX9_due 7 = .ok (.getfield 19, 3) := by decide +kernel
theorem dX9_due_10 : decode cX9_due 10 = .ok (.iload_n 1, 1) := by decide +kernel
theorem dX9_due_11 : decode cX9_due 11 = .ok (.iaload, 1) := by decide +kernel
theorem dX9_due_12 : decode cX9_due 12 = .ok (.aload_n 0, 1) := by decide +kernel
theorem dX9_due_13 : decode cX9_due 13 = .ok (.iload_n 1, 1) := by decide +kernel
theorem dX9_due_14 : decode cX9_due 14 = .ok (.iload_n 2, 1) := by decide +kernel
theorem dX9_due_15 : decode cX9_due 15 = .ok (.invokevirtual 68, 3) := by decide +kernel
theorem dX9_due_18 : decode cX9_due 18 = .ok (.iadd, 1) := by decide +kernel
theorem dX9_due_19 : decode cX9_due 19 = .ok (.bipush 60, 2) := by decide +kernel
theorem dX9_due_21 : decode cX9_due 21 = .ok (.if_icmp .le 7, 3) := by decide +kernel
theorem dX9_due_24 : decode cX9_due 24 = .ok (.iconst 1, 1) := by decide +kernel
theorem dX9_due_25 : decode cX9_due 25 = .ok (.goto 4, 3) := by decide +kernel
theorem dX9_due_28 : decode cX9_due 28 = .ok (.iconst 0, 1) := by decide +kernel
theorem dX9_due_29 : decode cX9_due 29 = .ok (.ireturn, 1) := by decide +kernel
theorem dX9_answers_0 : decode cX9_answers 0 = .ok (.iload_n 2, 1) := by decide +kernel
theorem dX9_answers_1 : decode cX9_answers 1 = .ok (.iconst 3, 1) := by decide +kernel
theorem dX9_answers_2 : decode cX9_answers 2 = .ok (.if_icmp .ne 20, 3) := by decide +kernel
theorem dX9_answers_5 : decode cX9_answers 5 = .ok (.aload_n 0, 1) := by decide +kernel
theorem dX9_answers_6 : decode cX9_answers 6 = .ok (.getfield 7, 3) := by decide +kernel
theorem dX9_answers_9 : decode cX9_answers 9 = .ok (.iload_n 1, 1) := by decide +kernel
theorem dX9_answers_10 : decode cX9_answers 10 = .ok (.iaload, 1) := by decide +kernel
theorem dX9_answers_11 : decode cX9_answers 11 = .ok (.ifCond .le 7, 3) := by decide +kernel
theorem dX9_answers_14 : decode cX9_answers 14 = .ok (.iconst 1, 1) := by decide +kernel
theorem dX9_answers_15 : decode cX9_answers 15 = .ok (.goto 34, 3) := by decide +kernel
theorem dX9_answers_18 : decode cX9_answers 18 = .ok (.iconst 0, 1) := by decide +kernel
theorem dX9_answers_19 : decode cX9_answers 19 = .ok (.goto 30, 3) := by decide +kernel
theorem dX9_answers_22 : decode cX9_answers 22 = .ok (.iload_n 2, 1) := by decide +kernel
theorem dX9_answers_23 : decode cX9_answers 23 = .ok (.iconst 4, 1) := by decide +kernel
theorem dX9_answers_24 : decode cX9_answers 24 = .ok (.if_icmp .ne 11, 3) := by decide +kernel
theorem dX9_answers_27 : decode cX9_answers 27 = .ok (.aload_n 0, 1) := by decide +kernel
theorem dX9_answers_28 : decode cX9_answers 28 = .ok (.iload_n 1, 1) := by decide +kernel
theorem dX9_answers_29 : decode cX9_answers 29 = .ok (.invokevirtual 72, 3) := by decide +kernel
theorem dX9_answers_32 : decode cX9_answers 32 = .ok (.goto 17, 3) := by decide +kernel
theorem dX9_answers_35 : decode cX9_answers 35 = .ok (.iload_n 2, 1) := by decide +kernel
theorem dX9_answers_36 : decode cX9_answers 36 = .ok (.iconst 5, 1) := by decide +kernel
theorem dX9_answers_37 : decode cX9_answers 37 = .ok (.if_icmp .ne 11, 3) := by decide +kernel
theorem dX9_answers_40 : decode cX9_answers 40 = .ok (.aload_n 0, 1) := by decide +kernel
theorem dX9_answers_41 : decode cX9_answers 41 = .ok (.iload_n 1, 1) := by decide +kernel
theorem dX9_answers_42 : decode cX9_answers 42 = .ok (.invokevirtual 76, 3) := by decide +kernel
theorem dX9_answers_45 : decode cX9_answers 45 = .ok (.goto 4, 3) := by decide +kernel
theorem dX9_answers_48 : decode cX9_answers 48 = .ok (.iconst 1, 1) := by decide +kernel
theorem dX9_answers_49 : decode cX9_answers 49 = .ok (.ireturn, 1) := by decide +kernel
theorem dX9_ask_0 : decode cX9_ask 0 = .ok (.aload_n 0, 1) := by decide +kernel
theorem dX9_ask_1 : decode cX9_ask 1 = .ok (.iload_n 1, 1) := by decide +kernel
theorem dX9_ask_2 : decode cX9_ask 2 = .ok (.invokevirtual 79, 3) := by decide +kernel
theorem dX9_ask_5 : decode cX9_ask 5 = .ok (.ifCond .eq 23, 3) := by decide +kernel
theorem dX9_ask_8 : decode cX9_ask 8 = .ok (.iload_n 2, 1) := by decide +kernel
theorem dX9_ask_9 : decode cX9_ask 9 = .ok (.iconst 0, 1) := by decide +kernel
theorem dX9_ask_10 : decode cX9_ask 10 = .ok (.iconst 5, 1) := by decide +kernel
theorem dX9_ask_11 : decode cX9_ask 11 = .ok (.invokestatic 45, 3) := by decide +kernel
theorem dX9_ask_14 : decode cX9_ask 14 = .ok (.ifCond .eq 14, 3) := by decide +kernel
theorem dX9_ask_17 : decode cX9_ask 17 = .ok (.iload_n 3, 1) := by decide +kernel
theorem dX9_ask_18 : decode cX9_ask 18 = .ok (.iconst 0, 1) := by decide +kernel
theorem dX9_ask_19 : decode cX9_ask 19 = .ok (.sipush 400, 3) := by decide +kernel
theorem dX9_ask_22 : decode cX9_ask 22 = .ok (.invokestatic 45, 3) := by decide +kernel
theorem dX9_ask_25 : decode cX9_ask 25 = .ok (.ifCond .ne 6, 3) := by decide +kernel
theorem dX9_ask_28 : decode cX9_ask 28 = .ok (.bipush (-2), 2) := by decide +kernel
theorem dX9_ask_30 : decode cX9_ask 30 = .ok (.ireturn, 1) := by decide +kernel
theorem dX9_ask_31 : decode cX9_ask 31 = .ok (.aload_n 0, 1) := by decide +kernel
theorem dX9_ask_32 : decode cX9_ask 32 = .ok (.iconst 0, 1) := by decide +kernel
theorem dX9_ask_33 : decode cX9_ask 33 = .ok (.putfield 54, 3) := by decide +kernel
theorem dX9_ask_36 : decode cX9_ask 36 = .ok (.aload_n 0, 1) := by decide +kernel
theorem dX9_ask_37 : decode cX9_ask 37 = .ok (.iload_n 1, 1) := by decide +kernel
theorem dX9_ask_38 : decode cX9_ask 38 = .ok (.iload_n 2, 1) := by decide +kernel
theorem dX9_ask_39 : decode cX9_ask 39 = .ok (.invokevirtual 82, 3) := by decide +kernel
theorem dX9_ask_42 : decode cX9_ask 42 = .ok (.ifCond .ne 6, 3) := by decide +kernel
theorem dX9_ask_45 : decode cX9_ask 45 = .ok (.bipush (-3), 2) := by decide +kernel
theorem dX9_ask_47 : decode cX9_ask 47 = .ok (.ireturn, 1) := by decide +kernel
theorem dX9_ask_48 : decode cX9_ask 48 = .ok (.aload_n 0, 1) := by decide +kernel
theorem dX9_ask_49 : decode cX9_ask 49 = .ok (.iconst 1, 1) := by decide +kernel
theorem dX9_ask_50 : decode cX9_ask 50 = .ok (.putfield 50, 3) := by decide +kernel
theorem dX9_ask_53 : decode cX9_ask 53 = .ok (.iload_n 2, 1) := by decide +kernel
theorem dX9_ask_54 : decode cX9_ask 54 = .ok (.ifCond .ne 12, 3) := by decide +kernel
theorem dX9_ask_57 : decode cX9_ask 57 = .ok (.aload_n 0, 1) := by decide +kernel
theorem dX9_ask_58 : decode cX9_ask 58 = .ok (.iload_n 1, 1) := by decide +kernel
theorem dX9_ask_59 : decode cX9_ask 59 = .ok (.iload_n 3, 1) := by decide +kernel
theorem dX9_ask_60 : decode cX9_ask 60 = .ok (.invokevirtual 86, 3) := by decide +kernel
theorem dX9_ask_63 : decode cX9_ask 63 = .ok (.goto 63, 3) := by decide +kernel
theorem dX9_ask_66 : decode cX9_ask 66 = .ok (.iload_n 2, 1) := by decide +kernel
theorem dX9_ask_67 : decode cX9_ask 67 = .ok (.iconst 1, 1) := by decide +kernel
theorem dX9_ask_68 : decode cX9_ask 68 = .ok (.if_icmp .ne 12, 3) := by decide +kernel
theorem dX9_ask_71 : decode cX9_ask 71 = .ok (.aload_n 0, 1) := by decide +kernel
theorem dX9_ask_72 : decode cX9_ask 72 = .ok (.iload_n 1, 1) := by decide +kernel
theorem dX9_ask_73 : decode cX9_ask 73 = .ok (.iload_n 3, 1) := by decide +kernel
theorem dX9_ask_74 : decode cX9_ask 74 = .ok (.invokevirtual 68, 3) := by decide +kernel
theorem dX9_ask_77 : decode cX9_ask 77 = .ok (.goto 49, 3) := by decide +kernel
theorem dX9_ask_80 : decode cX9_ask 80 = .ok (.iload_n 2, 1) := by decide +kernel
theorem dX9_ask_81 : decode cX9_ask 81 = .ok (.iconst 2, 1) := by decide +kernel
theorem dX9_ask_82 : decode cX9_ask 82 = .ok (.if_icmp .ne 11, 3) := by decide +kernel
theorem dX9_ask_85 : decode cX9_ask 85 = .ok (.aload_n 0, 1) := by decide +kernel
theorem dX9_ask_86 : decode cX9_ask 86 = .ok (.iload_n 1, 1) := by decide +kernel
theorem dX9_ask_87 : decode cX9_ask 87 = .ok (.invokevirtual 65, 3) := by decide +kernel
theorem dX9_ask_90 : decode cX9_ask 90 = .ok (.goto 36, 3) := by decide +kernel
theorem dX9_ask_93 : decode cX9_ask 93 = .ok (.iload_n 2, 1) := by decide +kernel
theorem dX9_ask_94 : decode cX9_ask 94 = .ok (.iconst 3, 1) := by decide +kernel
theorem dX9_ask_95 : decode cX9_ask 95 = .ok (.if_icmp .ne 11, 3) := by decide +kernel
theorem dX9_ask_98 : decode cX9_ask 98 = .ok (.aload_n 0, 1) := by decide +kernel
theorem dX9_ask_99 : decode cX9_ask 99 = .ok (.iload_n 1, 1) := by decide +kernel
theorem dX9_ask_100 : decode cX9_ask 100 = .ok (.invokevirtual 61, 3) := by decide +kernel
theorem dX9_ask_103 : decode cX9_ask 103 = .ok (.goto 23, 3) := by decide +kernel
theorem dX9_ask_106 : decode cX9_ask 106 = .ok (.iload_n 2, 1) := by decide +kernel
theorem dX9_ask_107 : decode cX9_ask 107 = .ok (.iconst 4, 1) := by decide +kernel
theorem dX9_ask_108 : decode cX9_ask 108 = .ok (.if_icmp .ne 12, 3) := by decide +kernel
theorem dX9_ask_111 : decode cX9_ask 111 = .ok (.aload_n 0, 1) := by decide +kernel
theorem dX9_ask_112 : decode cX9_ask 112 = .ok (.iload_n 1, 1) := by decide +kernel
theorem dX9_ask_113 : decode cX9_ask 113 = .ok (.iload_n 3, 1) := by decide +kernel
theorem dX9_ask_114 : decode cX9_ask 114 = .ok (.invokevirtual 89, 3) := by decide +kernel
theorem dX9_ask_117 : decode cX9_ask 117 = .ok (.goto 9, 3) := by decide +kernel
theorem dX9_ask_120 : decode cX9_ask 120 = .ok (.aload_n 0, 1) := by decide +kernel
theorem dX9_ask_121 : decode cX9_ask 121 = .ok (.iload_n 1, 1) := by decide +kernel
theorem dX9_ask_122 : decode cX9_ask 122 = .ok (.iload_n 3, 1) := by decide +kernel
theorem dX9_ask_123 : decode cX9_ask 123 = .ok (.invokevirtual 92, 3) := by decide +kernel
theorem dX9_ask_126 : decode cX9_ask 126 = .ok (.istore 4, 2) := by decide +kernel
theorem dX9_ask_128 : decode cX9_ask 128 = .ok (.aload_n 0, 1) := by decide +kernel
theorem dX9_ask_129 : decode cX9_ask 129 = .ok (.iconst 0, 1) := by decide +kernel
theorem dX9_ask_130 : decode cX9_ask 130 = .ok (.putfield 50, 3) := by decide +kernel
theorem dX9_ask_133 : decode cX9_ask 133 = .ok (.iload 4, 2) := by decide +kernel
theorem dX9_ask_135 : decode cX9_ask 135 = .ok (.ireturn, 1) := by decide +kernel
theorem dX9_trace_0 : decode cX9_trace 0 = .ok (.iload_n 1, 1) := by decide +kernel
theorem dX9_trace_1 : decode cX9_trace 1 = .ok (.iconst 0, 1) := by decide +kernel
theorem dX9_trace_2 : decode cX9_trace 2 = .ok (.aload_n 0, 1) := by decide +kernel
theorem dX9_trace_3 : decode cX9_trace 3 = .ok (.getfield 54, 3) := by decide +kernel
theorem dX9_trace_6 : decode cX9_trace 6 = .ok (.iconst 1, 1) := by decide +kernel
theorem dX9_trace_7 : decode cX9_trace 7 = .ok (.isub, 1) := by decide +kernel
theorem dX9_trace_8 : decode cX9_trace 8 = .ok (.invokestatic 45, 3) := by decide +kernel
theorem dX9_trace_11 : decode cX9_trace 11 = .ok (.ifCond .eq 12, 3) := by decide +kernel
theorem dX9_trace_14 : decode cX9_trace 14 = .ok (.aload_n 0, 1) := by decide +kernel
theorem dX9_trace_15 : decode cX9_trace 15 = .ok (.getfield 35, 3) := by decide +kernel
theorem dX9_trace_18 : decode cX9_trace 18 = .ok (.iload_n 1, 1) := by decide +kernel
theorem dX9_trace_19 : decode cX9_trace 19 = .ok (.iaload, 1) := by decide +kernel
theorem dX9_trace_20 : decode cX9_trace 20 = .ok (.goto 4, 3) := by decide +kernel
theorem dX9_trace_23 : decode cX9_trace 23 = .ok (.iconst (-1), 1) := by decide +kernel
theorem dX9_trace_24 : decode cX9_trace 24 = .ok (.ireturn, 1) := by decide +kernel
theorem dX9_lent_0 : decode cX9_lent 0 = .ok (.aload_n 0, 1) := by decide +kernel
theorem dX9_lent_1 : decode cX9_lent 1 = .ok (.getfield 7, 3) := by decide +kernel
theorem dX9_lent_4 : decode cX9_lent 4 = .ok (.iload_n 1, 1) := by decide +kernel
theorem dX9_lent_5 : decode cX9_lent 5 = .ok (.iaload, 1) := by decide +kernel
theorem dX9_lent_6 : decode cX9_lent 6 = .ok (.ifCond .le 11, 3) := by decide +kernel
theorem dX9_lent_9 : decode cX9_lent 9 = .ok (.aload_n 0, 1) := by decide +kernel
theorem dX9_lent_10 : decode cX9_lent 10 = .ok (.iload_n 1, 1) := by decide +kernel
theorem dX9_lent_11 : decode cX9_lent 11 = .ok (.invokevirtual 61, 3) := by decide +kernel
theorem dX9_lent_14 : decode cX9_lent 14 = .ok (.goto 4, 3) := by decide +kernel
theorem dX9_lent_17 : decode cX9_lent 17 = .ok (.iconst 0, 1) := by decide +kernel
theorem dX9_lent_18 : decode cX9_lent 18 = .ok (.ireturn, 1) := by decide +kernel
theorem dX9_hire_0 : decode cX9_hire 0 = .ok (.aload_n 0, 1) := by decide +kernel
theorem dX9_hire_1 : decode cX9_hire 1 = .ok (.iload_n 1, 1) := by decide +kernel
theorem dX9_hire_2 : decode cX9_hire 2 = .ok (.invokevirtual 79, 3) := by decide +kernel
theorem dX9_hire_5 : decode cX9_hire 5 = .ok (.ifCond .eq 12, 3) := by decide +kernel
theorem dX9_hire_8 : decode cX9_hire 8 = .ok (.iload_n 2, 1) := by decide +kernel
theorem dX9_hire_9 : decode cX9_hire 9 = .ok (.iconst 0, 1) := by decide +kernel
theorem dX9_hire_10 : decode cX9_hire 10 = .ok (.iconst 5, 1) := by decide +kernel
theorem dX9_hire_11 : decode cX9_hire 11 = .ok (.invokestatic 45, 3) := by decide +kernel
theorem dX9_hire_14 : decode cX9_hire 14 = .ok (.ifCond .ne 6, 3) := by decide +kernel
theorem dX9_hire_17 : decode cX9_hire 17 = .ok (.bipush (-2), 2) := by decide +kernel
theorem dX9_hire_19 : decode cX9_hire 19 = .ok (.ireturn, 1) := by decide +kernel
theorem dX9_hire_20 : decode cX9_hire 20 = .ok (.aload_n 0, 1) := by decide +kernel
theorem dX9_hire_21 : decode cX9_hire 21 = .ok (.getfield 22, 3) := by decide +kernel
theorem dX9_hire_24 : decode cX9_hire 24 = .ok (.iload_n 1, 1) := by decide +kernel
theorem dX9_hire_25 : decode cX9_hire 25 = .ok (.iaload, 1) := by decide +kernel
theorem dX9_hire_26 : decode cX9_hire 26 = .ok (.ifCond .ne 21, 3) := by decide +kernel
theorem dX9_hire_29 : decode cX9_hire 29 = .ok (.aload_n 0, 1) := by decide +kernel
theorem dX9_hire_30 : decode cX9_hire 30 = .ok (.iload_n 1, 1) := by decide +kernel
theorem dX9_hire_31 : decode cX9_hire 31 = .ok (.invokevirtual 76, 3) := by decide +kernel
theorem dX9_hire_34 : decode cX9_hire 34 = .ok (.ifCond .eq 16, 3) := by decide +kernel
theorem dX9_hire_37 : decode cX9_hire 37 = .ok (.aload_n 0, 1) := by decide +kernel
theorem dX9_hire_38 : decode cX9_hire 38 = .ok (.iload_n 1, 1) := by decide +kernel
theorem dX9_hire_39 : decode cX9_hire 39 = .ok (.iconst 1, 1) := by decide +kernel
theorem dX9_hire_40 : decode cX9_hire 40 = .ok (.invokevirtual 92, 3) := by decide +kernel
theorem dX9_hire_43 : decode cX9_hire 43 = .ok (.iconst 1, 1) := by decide +kernel
theorem dX9_hire_44 : decode cX9_hire 44 = .ok (.if_icmp .ne 6, 3) := by decide +kernel
theorem dX9_hire_47 : decode cX9_hire 47 = .ok (.bipush (-3), 2) := by decide +kernel
theorem dX9_hire_49 : decode cX9_hire 49 = .ok (.ireturn, 1) := by decide +kernel
theorem dX9_hire_50 : decode cX9_hire 50 = .ok (.aload_n 0, 1) := by decide +kernel
theorem dX9_hire_51 : decode cX9_hire 51 = .ok (.getfield 31, 3) := by decide +kernel
theorem dX9_hire_54 : decode cX9_hire 54 = .ok (.iload_n 2, 1) := by decide +kernel
theorem dX9_hire_55 : decode cX9_hire 55 = .ok (.dup2, 1) := by decide +kernel
theorem dX9_hire_56 : decode cX9_hire 56 = .ok (.laload, 1) := by decide +kernel
theorem dX9_hire_57 : decode cX9_hire 57 = .ok (.aload_n 0, 1) := by decide +kernel
theorem dX9_hire_58 : decode cX9_hire 58 = .ok (.iload_n 1, 1) := by decide +kernel
theorem dX9_hire_59 : decode cX9_hire 59 = .ok (.invokevirtual 95, 3) := by decide +kernel
theorem dX9_hire_62 : decode cX9_hire 62 = .ok (.i2l, 1) := by decide +kernel
theorem dX9_hire_63 : decode cX9_hire 63 = .ok (.lsub, 1) := by decide +kernel
theorem dX9_hire_64 : decode cX9_hire 64 = .ok (.lastore, 1) := by decide +kernel
theorem dX9_hire_65 : decode cX9_hire 65 = .ok (.aload_n 0, 1) := by decide +kernel
theorem dX9_hire_66 : decode cX9_hire 66 = .ok (.getfield 22, 3) := by decide +kernel
theorem dX9_hire_69 : decode cX9_hire 69 = .ok (.iload_n 1, 1) := by decide +kernel
theorem dX9_hire_70 : decode cX9_hire 70 = .ok (.iconst 1, 1) := by decide +kernel
theorem dX9_hire_71 : decode cX9_hire 71 = .ok (.iastore, 1) := by decide +kernel
theorem dX9_hire_72 : decode cX9_hire 72 = .ok (.aload_n 0, 1) := by decide +kernel
theorem dX9_hire_73 : decode cX9_hire 73 = .ok (.getfield 25, 3) := by decide +kernel
theorem dX9_hire_76 : decode cX9_hire 76 = .ok (.iload_n 1, 1) := by decide +kernel
theorem dX9_hire_77 : decode cX9_hire 77 = .ok (.iload_n 2, 1) := by decide +kernel
theorem dX9_hire_78 : decode cX9_hire 78 = .ok (.iastore, 1) := by decide +kernel
theorem dX9_hire_79 : decode cX9_hire 79 = .ok (.aload_n 0, 1) := by decide +kernel
theorem dX9_hire_80 : decode cX9_hire 80 = .ok (.getfield 28, 3) := by decide +kernel
theorem dX9_hire_83 : decode cX9_hire 83 = .ok (.iload_n 1, 1) := by decide +kernel
theorem dX9_hire_84 : decode cX9_hire 84 = .ok (.aload_n 0, 1) := by decide +kernel
theorem dX9_hire_85 : decode cX9_hire 85 = .ok (.getfield 38, 3) := by decide +kernel
theorem dX9_hire_88 : decode cX9_hire 88 = .ok (.iastore, 1) := by decide +kernel
theorem dX9_hire_89 : decode cX9_hire 89 = .ok (.aload_n 0, 1) := by decide +kernel
theorem dX9_hire_90 : decode cX9_hire 90 = .ok (.dup, 1) := by decide +kernel
theorem dX9_hire_91 : decode cX9_hire 91 = .ok (.getfield 98, 3) := by decide +kernel
theorem dX9_hire_94 : decode cX9_hire 94 = .ok (.iconst 1, 1) := by decide +kernel
theorem dX9_hire_95 : decode cX9_hire 95 = .ok (.iadd, 1) := by decide +kernel
theorem dX9_hire_96 : decode cX9_hire 96 = .ok (.putfield 98, 3) := by decide +kernel
theorem dX9_hire_99 : decode cX9_hire 99 = .ok (.aload_n 0, 1) := by decide +kernel
theorem dX9_hire_100 : decode cX9_hire 100 = .ok (.iload_n 1, 1) := by decide +kernel
theorem dX9_hire_101 : decode cX9_hire 101 = .ok (.invokevirtual 95, 3) := by decide +kernel
theorem dX9_hire_104 : decode cX9_hire 104 = .ok (.ireturn, 1) := by decide +kernel
theorem dX9_back_0 : decode cX9_back 0 = .ok (.aload_n 0, 1) := by decide +kernel
theorem dX9_back_1 : decode cX9_back 1 = .ok (.iload_n 1, 1) := by decide +kernel
theorem dX9_back_2 : decode cX9_back 2 = .ok (.invokevirtual 79, 3) := by decide +kernel
theorem dX9_back_5 : decode cX9_back 5 = .ok (.ifCond .ne 6, 3) := by decide +kernel
theorem dX9_back_8 : decode cX9_back 8 = .ok (.bipush (-2), 2) := by decide +kernel
theorem dX9_back_10 : decode cX9_back 10 = .ok (.ireturn, 1) := by decide +kernel
theorem dX9_back_11 : decode cX9_back 11 = .ok (.aload_n 0, 1) := by decide +kernel
theorem dX9_back_12 : decode cX9_back 12 = .ok (.getfield 22, 3) := by decide +kernel
theorem dX9_back_15 : decode cX9_back 15 = .ok (.iload_n 1, 1) := by decide +kernel
theorem dX9_back_16 : decode cX9_back 16 = .ok (.iaload, 1) := by decide +kernel
theorem dX9_back_17 : decode cX9_back 17 = .ok (.iconst 1, 1) := by decide +kernel
theorem dX9_back_18 : decode cX9_back 18 = .ok (.if_icmp .eq 6, 3) := by decide +kernel
theorem dX9_back_21 : decode cX9_back 21 = .ok (.bipush (-3), 2) := by decide +kernel
theorem dX9_back_23 : decode cX9_back 23 = .ok (.ireturn, 1) := by decide +kernel
theorem dX9_back_24 : decode cX9_back 24 = .ok (.aload_n 0, 1) := by decide +kernel
theorem dX9_back_25 : decode cX9_back 25 = .ok (.getfield 38, 3) := by decide +kernel
theorem dX9_back_28 : decode cX9_back 28 = .ok (.aload_n 0, 1) := by decide +kernel
theorem dX9_back_29 : decode cX9_back 29 = .ok (.getfield 28, 3) := by decide +kernel
theorem dX9_back_32 : decode cX9_back 32 = .ok (.iload_n 1, 1) := by decide +kernel
theorem dX9_back_33 : decode cX9_back 33 = .ok (.iaload, 1) := by decide +kernel
theorem dX9_back_34 : decode cX9_back 34 = .ok (.isub, 1) := by decide +kernel
theorem dX9_back_35 : decode cX9_back 35 = .ok (.iconst 1, 1) := by decide +kernel
theorem dX9_back_36 : decode cX9_back 36 = .ok (.if_icmp .ge 7, 3) := by decide +kernel
theorem dX9_back_39 : decode cX9_back 39 = .ok (.iconst 1, 1) := by decide +kernel
theorem dX9_back_40 : decode cX9_back 40 = .ok (.goto 14, 3) := by decide +kernel
theorem dX9_back_43 : decode cX9_back 43 = .ok (.aload_n 0, 1) := by decide +kernel
theorem dX9_back_44 : decode cX9_back 44 = .ok (.getfield 38, 3) := by decide +kernel
theorem dX9_back_47 : decode cX9_back 47 = .ok (.aload_n 0, 1) := by decide +kernel
theorem dX9_back_48 : decode cX9_back 48 = .ok (.getfield 28, 3) := by decide +kernel
theorem dX9_back_51 : decode cX9_back 51 = .ok (.iload_n 1, 1) := by decide +kernel
theorem dX9_back_52 : decode cX9_back 52 = .ok (.iaload, 1) := by decide +kernel
theorem dX9_back_53 : decode cX9_back 53 = .ok (.isub, 1) := by decide +kernel
theorem dX9_back_54 : decode cX9_back 54 = .ok (.istore_n 2, 1) := by decide +kernel
theorem dX9_back_55 : decode cX9_back 55 = .ok (.aload_n 0, 1) := by decide +kernel
theorem dX9_back_56 : decode cX9_back 56 = .ok (.iload_n 1, 1) := by decide +kernel
theorem dX9_back_57 : decode cX9_back 57 = .ok (.iload_n 2, 1) := by decide +kernel
theorem dX9_back_58 : decode cX9_back 58 = .ok (.invokevirtual 86, 3) := by decide +kernel
theorem dX9_back_61 : decode cX9_back 61 = .ok (.aload_n 0, 1) := by decide +kernel
theorem dX9_back_62 : decode cX9_back 62 = .ok (.iload_n 1, 1) := by decide +kernel
theorem dX9_back_63 : decode cX9_back 63 = .ok (.invokevirtual 72, 3) := by decide +kernel
