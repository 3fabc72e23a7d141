theorem dX0_init_0 : decode cX0_init 0 = .ok (.aload_n 0, 1) := by decide +kernel
theorem dX0_init_1 : decode cX0_init 1 = .ok (.iload_n 1, 1) := by decide +kernel
theorem dX0_init_2 : decode cX0_init 2 = .ok (.iload_n 2, 1) := by decide +kernel
theorem dX0_init_3 : decode cX0_init 3 = .ok (.iload_n 3, 1) := by decide +kernel
theorem dX0_init_4 : decode cX0_init 4 = .ok (.aload 4, 2) := by decide +kernel
theorem dX0_init_6 : decode cX0_init 6 = .ok (.invokespecial 1, 3) := by decide +kernel
theorem dX0_init_9 : decode cX0_init 9 = .ok (.return_, 1) := by decide +kernel
theorem dX0_isServiced_0 : decode cX0_isServiced 0 = .ok (.iconst 1, 1) := by decide +kernel
theorem dX0_isServiced_1 : decode cX0_isServiced 1 = .ok (.ireturn, 1) := by decide +kernel
theorem dX0_check_0 : decode cX0_check 0 = .ok (.aload_n 0, 1) := by decide +kernel
theorem dX0_check_1 : decode cX0_check 1 = .ok (.getfield 7, 3) := by decide +kernel
theorem dX0_check_4 : decode cX0_check 4 = .ok (.bipush 22, 2) := by decide +kernel
theorem dX0_check_6 : decode cX0_check 6 = .ok (.invokevirtual 13, 3) := by decide +kernel
theorem dX0_check_9 : decode cX0_check 9 = .ok (.aload_n 0, 1) := by decide +kernel
theorem dX0_check_10 : decode cX0_check 10 = .ok (.invokespecial 19, 3) := by decide +kernel
theorem dX0_check_13 : decode cX0_check 13 = .ok (.iconst 2, 1) := by decide +kernel
theorem dX0_check_14 : decode cX0_check 14 = .ok (.iadd, 1) := by decide +kernel
theorem dX0_check_15 : decode cX0_check 15 = .ok (.ireturn, 1) := by decide +kernel
theorem dX0_premium_0 : decode cX0_premium 0 = .ok (.aload_n 0, 1) := by decide +kernel
theorem dX0_premium_1 : decode cX0_premium 1 = .ok (.getfield 7, 3) := by decide +kernel
theorem dX0_premium_4 : decode cX0_premium 4 = .ok (.bipush 42, 2) := by decide +kernel
theorem dX0_premium_6 : decode cX0_premium 6 = .ok (.invokevirtual 13, 3) := by decide +kernel
theorem dX0_premium_9 : decode cX0_premium 9 = .ok (.iload_n 1, 1) := by decide +kernel
theorem dX0_premium_10 : decode cX0_premium 10 = .ok (.aload_n 0, 1) := by decide +kernel
theorem dX0_premium_11 : decode cX0_premium 11 = .ok (.invokevirtual 23, 3) := by decide +kernel
theorem dX0_premium_14 : decode cX0_premium 14 = .ok (.aload_n 0, 1) := by decide +kernel
theorem dX0_premium_15 : decode cX0_premium 15 = .ok (.invokevirtual 24, 3) := by decide +kernel
theorem dX0_premium_18 : decode cX0_premium 18 = .ok (.sipush 200, 3) := by decide +kernel
theorem dX0_premium_21 : decode cX0_premium 21 = .ok (.idiv, 1) := by decide +kernel
theorem dX0_premium_22 : decode cX0_premium 22 = .ok (.iadd, 1) := by decide +kernel
theorem dX0_premium_23 : decode cX0_premium 23 = .ok (.imul, 1) := by decide +kernel
theorem dX0_premium_24 : decode cX0_premium 24 = .ok (.ireturn, 1) := by decide +kernel
theorem dX1_init_0 : decode cX1_init 0 = .ok (.aload_n 0, 1) := by decide +kernel
theorem dX1_init_1 : decode cX1_init 1 = .ok (.iload_n 1, 1) := by decide +kernel
theorem dX1_init_2 : decode cX1_init 2 = .ok (.iload_n 2, 1) := by decide +kernel
theorem dX1_init_3 : decode cX1_init 3 = .ok (.iload_n 3, 1) := by decide +kernel
theorem dX1_init_4 : decode cX1_init 4 = .ok (.aload 4, 2) := by decide +kernel
theorem dX1_init_6 : decode cX1_init 6 = .ok (.invokespecial 1, 3) := by decide +kernel
theorem dX1_init_9 : decode cX1_init 9 = .ok (.return_, 1) := by decide +kernel
theorem dX1_charge_0 : decode cX1_charge 0 = .ok (.aload_n 0, 1) := by decide +kernel
theorem dX1_charge_1 : decode cX1_charge 1 = .ok (.getfield 7, 3) := by decide +kernel
theorem dX1_charge_4 : decode cX1_charge 4 = .ok (.iconst 4, 1) := by decide +kernel
theorem dX1_charge_5 : decode cX1_charge 5 = .ok (.invokevirtual 13, 3) := by decide +kernel
theorem dX1_charge_8 : decode cX1_charge 8 = .ok (.aload_n 0, 1) := by decide +kernel
theorem dX1_charge_9 : decode cX1_charge 9 = .ok (.iload_n 1, 1) := by decide +kernel
theorem dX1_charge_10 : decode cX1_charge 10 = .ok (.invokespecial 19, 3) := by decide +kernel
theorem dX1_charge_13 : decode cX1_charge 13 = .ok (.aload_n 0, 1) := by decide +kernel
theorem dX1_charge_14 : decode cX1_charge 14 = .ok (.getfield 23, 3) := by decide +kernel
theorem dX1_charge_17 : decode cX1_charge 17 = .ok (.bipush 100, 2) := by decide +kernel
theorem dX1_charge_19 : decode cX1_charge 19 = .ok (.idiv, 1) := by decide +kernel
theorem dX1_charge_20 : decode cX1_charge 20 = .ok (.iadd, 1) := by decide +kernel
theorem dX1_charge_21 : decode cX1_charge 21 = .ok (.ireturn, 1) := by decide +kernel
theorem dX1_check_0 : decode cX1_check 0 = .ok (.aload_n 0, 1) := by decide +kernel
theorem dX1_check_1 : decode cX1_check 1 = .ok (.getfield 7, 3) := by decide +kernel
theorem dX1_check_4 : decode cX1_check 4 = .ok (.bipush 23, 2) := by decide +kernel
theorem dX1_check_6 : decode cX1_check 6 = .ok (.invokevirtual 13, 3) := by decide +kernel
theorem dX1_check_9 : decode cX1_check 9 = .ok (.aload_n 0, 1) := by decide +kernel
theorem dX1_check_10 : decode cX1_check 10 = .ok (.invokespecial 27, 3) := by decide +kernel
theorem dX1_check_13 : decode cX1_check 13 = .ok (.iconst 4, 1) := by decide +kernel
theorem dX1_check_14 : decode cX1_check 14 = .ok (.iadd, 1) := by decide +kernel
theorem dX1_check_15 : decode cX1_check 15 = .ok (.ireturn, 1) := by decide +kernel
theorem dX2_init_0 : decode cX2_init 0 = .ok (.aload_n 0, 1) := by decide +kernel
theorem dX2_init_1 : decode cX2_init 1 = .ok (.iload_n 1, 1) := by decide +kernel
theorem dX2_init_2 : decode cX2_init 2 = .ok (.iload_n 2, 1) := by decide +kernel
theorem dX2_init_3 : decode cX2_init 3 = .ok (.iload_n 3, 1) := by decide +kernel
theorem dX2_init_4 : decode cX2_init 4 = .ok (.aload 4, 2) := by decide +kernel
theorem dX2_init_6 : decode cX2_init 6 = .ok (.invokespecial 1, 3) := by decide +kernel
theorem dX2_init_9 : decode cX2_init 9 = .ok (.return_, 1) := by decide +kernel
theorem dX2_hasDeposit_0 : decode cX2_hasDeposit 0 = .ok (.iconst 1, 1) := by decide +kernel
theorem dX2_hasDeposit_1 : decode cX2_hasDeposit 1 = .ok (.ireturn, 1) := by decide +kernel
theorem dX2_check_0 : decode cX2_check 0 = .ok (.aload_n 0, 1) := by decide +kernel
theorem dX2_check_1 : decode cX2_check 1 = .ok (.getfield 7, 3) := by decide +kernel
theorem dX2_check_4 : decode cX2_check 4 = .ok (.bipush 21, 2) := by decide +kernel
theorem dX2_check_6 : decode cX2_check 6 = .ok (.invokevirtual 13, 3) := by decide +kernel
theorem dX2_check_9 : decode cX2_check 9 = .ok (.aload_n 0, 1) := by decide +kernel
theorem dX2_check_10 : decode cX2_check 10 = .ok (.invokespecial 19, 3) := by decide +kernel
theorem dX2_check_13 : decode cX2_check 13 = .ok (.iconst 1, 1) := by decide +kernel
theorem dX2_check_14 : decode cX2_check 14 = .ok (.iadd, 1) := by decide +kernel
theorem dX2_check_15 : decode cX2_check 15 = .ok (.ireturn, 1) := by decide +kernel
theorem dX2_deposit_0 : decode cX2_deposit 0 = .ok (.aload_n 0, 1) := by decide +kernel
theorem dX2_deposit_1 : decode cX2_deposit 1 = .ok (.getfield 7, 3) := by decide +kernel
theorem dX2_deposit_4 : decode cX2_deposit 4 = .ok (.bipush 31, 2) := by decide +kernel
theorem dX2_deposit_6 : decode cX2_deposit 6 = .ok (.invokevirtual 13, 3) := by decide +kernel
theorem dX2_deposit_9 : decode cX2_deposit 9 = .ok (.aload_n 0, 1) := by decide +kernel
theorem dX2_deposit_10 : decode cX2_deposit 10 = .ok (.getfield 23, 3) := by decide +kernel
theorem dX2_deposit_13 : decode cX2_deposit 13 = .ok (.iconst 2, 1) := by decide +kernel
theorem dX2_deposit_14 : decode cX2_deposit 14 = .ok (.idiv, 1) := by decide +kernel
theorem dX2_deposit_15 : decode cX2_deposit 15 = .ok (.ireturn, 1) := by decide +kernel
theorem dX3_init_0 : decode cX3_init 0 = .ok (.aload_n 0, 1) := by decide +kernel
theorem dX3_init_1 : decode cX3_init 1 = .ok (.iload_n 1, 1) := by decide +kernel
theorem dX3_init_2 : decode cX3_init 2 = .ok (.iload_n 2, 1) := by decide +kernel
theorem dX3_init_3 : decode cX3_init 3 = .ok (.iload_n 3, 1) := by decide +kernel
theorem dX3_init_4 : decode cX3_init 4 = .ok (.aload 4, 2) := by decide +kernel
theorem dX3_init_6 : decode cX3_init 6 = .ok (.invokespecial 1, 3) := by decide +kernel
theorem dX3_init_9 : decode cX3_init 9 = .ok (.return_, 1) := by decide +kernel
theorem dX3_isServiced_0 : decode cX3_isServiced 0 = .ok (.iconst 1, 1) := by decide +kernel
theorem dX3_isServiced_1 : decode cX3_isServiced 1 = .ok (.ireturn, 1) := by decide +kernel
theorem dX3_wear_0 : decode cX3_wear 0 = .ok (.aload_n 0, 1) := by decide +kernel
theorem dX3_wear_1 : decode cX3_wear 1 = .ok (.getfield 7, 3) := by decide +kernel
theorem dX3_wear_4 : decode cX3_wear 4 = .ok (.bipush 13, 2) := by decide +kernel
theorem dX3_wear_6 : decode cX3_wear 6 = .ok (.invokevirtual 13, 3) := by decide +kernel
theorem dX3_wear_9 : decode cX3_wear 9 = .ok (.iconst 3, 1) := by decide +kernel
theorem dX3_wear_10 : decode cX3_wear 10 = .ok (.aload_n 0, 1) := by decide +kernel
theorem dX3_wear_11 : decode cX3_wear 11 = .ok (.iload_n 1, 1) := by decide +kernel
theorem dX3_wear_12 : decode cX3_wear 12 = .ok (.invokespecial 19, 3) := by decide +kernel
theorem dX3_wear_15 : decode cX3_wear 15 = .ok (.imul, 1) := by decide +kernel
theorem dX3_wear_16 : decode cX3_wear 16 = .ok (.ireturn, 1) := by decide +kernel
theorem dX4_init_0 : decode cX4_init 0 = .ok (.aload_n 0, 1) := by decide +kernel
theorem dX4_init_1 : decode cX4_init 1 = .ok (.iload_n 1, 1) := by decide +kernel
theorem dX4_init_2 : decode cX4_init 2 = .ok (.iload_n 2, 1) := by decide +kernel
theorem dX4_init_3 : decode cX4_init 3 = .ok (.iload_n 3, 1) := by decide +kernel
theorem dX4_init_4 : decode cX4_init 4 = .ok (.aload 4, 2) := by decide +kernel
theorem dX4_init_6 : decode cX4_init 6 = .ok (.invokespecial 1, 3) := by decide +kernel
theorem dX4_init_9 : decode cX4_init 9 = .ok (.return_, 1) := by decide +kernel
theorem dX4_isInsured_0 : decode cX4_isInsured 0 = .ok (.iconst 1, 1) := by decide +kernel
theorem dX4_isInsured_1 : decode cX4_isInsured 1 = .ok (.ireturn, 1) := by decide +kernel
theorem dX4_charge_0 : decode cX4_charge 0 = .ok (.aload_n 0, 1) := by decide +kernel
theorem dX4_charge_1 : decode cX4_charge 1 = .ok (.getfield 7, 3) := by decide +kernel
theorem dX4_charge_4 : decode cX4_charge 4 = .ok (.iconst 2, 1) := by decide +kernel
theorem dX4_charge_5 : decode cX4_charge 5 = .ok (.invokevirtual 13, 3) := by decide +kernel
theorem dX4_charge_8 : decode cX4_charge 8 = .ok (.aload_n 0, 1) := by decide +kernel
theorem dX4_charge_9 : decode cX4_charge 9 = .ok (.iload_n 1, 1) := by decide +kernel
theorem dX4_charge_10 : decode cX4_charge 10 = .ok (.invokespecial 19, 3) := by decide +kernel
theorem dX4_charge_13 : decode cX4_charge 13 = .ok (.iconst 3, 1) := by decide +kernel
theorem dX4_charge_14 : decode cX4_charge 14 = .ok (.iload_n 1, 1) := by decide +kernel
theorem dX4_charge_15 : decode cX4_charge 15 = .ok (.imul, 1) := by decide +kernel
theorem dX4_charge_16 : decode cX4_charge 16 = .ok (.iadd, 1) := by decide +kernel
theorem dX4_charge_17 : decode cX4_charge 17 = .ok (.ireturn, 1) := by decide +kernel
theorem dX4_premium_0 : decode cX4_premium 0 = .ok (.aload_n 0, 1) := by decide +kernel
theorem dX4_premium_1 : decode cX4_premium 1 = .ok (.getfield 7, 3) := by decide +kernel
theorem dX4_premium_4 : decode cX4_premium 4 = .ok (.bipush 41, 2) := by decide +kernel
theorem dX4_premium_6 : decode cX4_premium 6 = .ok (.invokevirtual 13, 3) := by decide +kernel
theorem dX4_premium_9 : decode cX4_premium 9 = .ok (.iload_n 1, 1) := by decide +kernel
theorem dX4_premium_10 : decode cX4_premium 10 = .ok (.aload_n 0, 1) := by decide +kernel
theorem dX4_premium_11 : decode cX4_premium 11 = .ok (.invokevirtual 23, 3) := by decide +kernel
theorem dX4_premium_14 : decode cX4_premium 14 = .ok (.bipush 100, 2) := by decide +kernel
theorem dX4_premium_16 : decode cX4_premium 16 = .ok (.idiv, 1) := by decide +kernel
theorem dX4_premium_17 : decode cX4_premium 17 = .ok (.imul, 1) := by decide +kernel
theorem dX4_premium_18 : decode cX4_premium 18 = .ok (.ireturn, 1) := by decide +kernel
theorem dX5_init_0 : decode cX5_init 0 = .ok (.aload_n 0, 1) := by decide +kernel
theorem dX5_init_1 : decode cX5_init 1 = .ok (.invokespecial 3, 3) := by decide +kernel
theorem dX5_init_4 : decode cX5_init 4 = .ok (.aload_n 0, 1) := by decide +kernel
theorem dX5_init_5 : decode cX5_init 5 = .ok (.iconst 0, 1) := by decide +kernel
theorem dX5_init_6 : decode cX5_init 6 = .ok (.putfield 9, 3) := by decide +kernel
theorem dX5_init_9 : decode cX5_init 9 = .ok (.aload_n 0, 1) := by decide +kernel
theorem dX5_init_10 : decode cX5_init 10 = .ok (.iconst 0, 1) := by decide +kernel
theorem dX5_init_11 : decode cX5_init 11 = .ok (.putfield 15, 3) := by decide +kernel
theorem dX5_init_14 : decode cX5_init 14 = .ok (.aload_n 0, 1) := by decide +kernel
theorem dX5_init_15 : decode cX5_init 15 = .ok (.iconst (-1), 1) := by decide +kernel
theorem dX5_init_16 : decode cX5_init 16 = .ok (.putfield 18, 3) := by decide +kernel
theorem dX5_init_19 : decode cX5_init 19 = .ok (.aload_n 0, 1) := by decide +kernel
theorem dX5_init_20 : decode cX5_init 20 = .ok (.iconst (-1), 1) := by decide +kernel
theorem dX5_init_21 : decode cX5_init 21 = .ok (.putfield 21, 3) := by decide +kernel
theorem dX5_init_24 : decode cX5_init 24 = .ok (.aload_n 0, 1) := by decide +kernel
theorem dX5_init_25 : decode cX5_init 25 = .ok (.iload_n 1, 1) := by decide +kernel
theorem dX5_init_26 : decode cX5_init 26 = .ok (.putfield 24, 3) := by decide +kernel
theorem dX5_init_29 : decode cX5_init 29 = .ok (.aload_n 0, 1) := by decide +kernel
theorem dX5_init_30 : decode cX5_init 30 = .ok (.iload_n 2, 1) := by decide +kernel
theorem dX5_init_31 : decode cX5_init 31 = .ok (.putfield 27, 3) := by decide +kernel
theorem dX5_init_34 : decode cX5_init 34 = .ok (.aload_n 0, 1) := by decide +kernel
theorem dX5_init_35 : decode cX5_init 35 = .ok (.iload_n 3, 1) := by decide +kernel
theorem dX5_init_36 : decode cX5_init 36 = .ok (.putfield 30, 3) := by decide +kernel
theorem dX5_init_39 : decode cX5_init 39 = .ok (.aload_n 0, 1) := by decide +kernel
theorem dX5_init_40 : decode cX5_init 40 = .ok (.aload 4, 2) := by decide +kernel
theorem dX5_init_42 : decode cX5_init 42 = .ok (.putfield 33, 3) := by decide +kernel
theorem dX5_init_45 : decode cX5_init 45 = .ok (.return_, 1) := by decide +kernel
theorem dX5_hasDeposit_0 : decode cX5_hasDeposit 0 = .ok (.iconst 0, 1) := by decide +kernel
theorem dX5_hasDeposit_1 : decode cX5_hasDeposit 1 = .ok (.ireturn, 1) := by decide +kernel
theorem dX5_isInsured_0 : decode cX5_isInsured 0 = .ok (.iconst 0, 1) := by decide +kernel
theorem dX5_isInsured_1 : decode cX5_isInsured 1 = .ok (.ireturn, 1) := by decide +kernel
theorem dX5_isServiced_0 : decode cX5_isServiced 0 = .ok (.iconst 0, 1) := by decide +kernel
theorem dX5_isServiced_1 : decode cX5_isServiced 1 = .ok (.ireturn, 1) := by decide +kernel
theorem dX5_charge_0 : decode cX5_charge 0 = .ok (.aload_n 0, 1) := by decide +kernel
theorem dX5_charge_1 : decode cX5_charge 1 = .ok (.getfield 33, 3) := by decide +kernel
theorem dX5_charge_4 : decode cX5_charge 4 = .ok (.iconst 1, 1) := by decide +kernel
theorem dX5_charge_5 : decode cX5_charge 5 = .ok (.invokevirtual 37, 3) := by decide +kernel
theorem dX5_charge_8 : decode cX5_charge 8 = .ok (.aload_n 0, 1) := by decide +kernel
theorem dX5_charge_9 : decode cX5_charge 9 = .ok (.getfield 27, 3) := by decide +kernel
theorem dX5_charge_12 : decode cX5_charge 12 = .ok (.iload_n 1, 1) := by decide +kernel
theorem dX5_charge_13 : decode cX5_charge 13 = .ok (.imul, 1) := by decide +kernel
theorem dX5_charge_14 : decode cX5_charge 14 = .ok (.ireturn, 1) := by decide +kernel
theorem dX5_wear_0 : decode cX5_wear 0 = .ok (.aload_n 0, 1) := by decide +kernel
theorem dX5_wear_1 : decode cX5_wear 1 = .ok (.getfield 33, 3) := by decide +kernel
theorem dX5_wear_4 : decode cX5_wear 4 = .ok (.bipush 11, 2) := by decide +kernel
theorem dX5_wear_6 : decode cX5_wear 6 = .ok (.invokevirtual 37, 3) := by decide +kernel
theorem dX5_wear_9 : decode cX5_wear 9 = .ok (.iload_n 1, 1) := by decide +kernel
theorem dX5_wear_10 : decode cX5_wear 10 = .ok (.ireturn, 1) := by decide +kernel
theorem dX5_check_0 : decode cX5_check 0 = .ok (.aload_n 0, 1) := by decide +kernel
theorem dX5_check_1 : decode cX5_check 1 = .ok (.getfield 33, 3) := by decide +kernel
theorem dX5_check_4 : decode cX5_check 4 = .ok (.bipush 20, 2) := by decide +kernel
theorem dX5_check_6 : decode cX5_check 6 = .ok (.invokevirtual 37, 3) := by decide +kernel
theorem dX5_check_9 : decode cX5_check 9 = .ok (.aload_n 0, 1) := by decide +kernel
theorem dX5_check_10 : decode cX5_check 10 = .ok (.getfield 9, 3) := by decide +kernel
theorem dX5_check_13 : decode cX5_check 13 = .ok (.bipush 10, 2) := by decide +kernel
theorem dX5_check_15 : decode cX5_check 15 = .ok (.idiv, 1) := by decide +kernel
theorem dX5_check_16 : decode cX5_check 16 = .ok (.ireturn, 1) := by decide +kernel
theorem dX5_deposit_0 : decode cX5_deposit 0 = .ok (.iconst 0, 1) := by decide +kernel
theorem dX5_deposit_1 : decode cX5_deposit 1 = .ok (.ireturn, 1) := by decide +kernel
theorem dX5_premium_0 : decode cX5_premium 0 = .ok (.iconst 0, 1) := by decide +kernel
theorem dX5_premium_1 : decode cX5_premium 1 = .ok (.ireturn, 1) := by decide +kernel
theorem dX5_due_0 : decode cX5_due 0 = .ok (.aload_n 0, 1) := by decide +kernel
theorem dX5_due_1 : decode cX5_due 1 = .ok (.invokevirtual 43, 3) := by decide +kernel
theorem dX5_due_4 : decode cX5_due 4 = .ok (.ifCond .ne 5, 3) := by decide +kernel
theorem dX5_due_7 : decode cX5_due 7 = .ok (.iconst 0, 1) := by decide +kernel
theorem dX5_due_8 : decode cX5_due 8 = .ok (.ireturn, 1) := by decide +kernel
theorem dX5_due_9 : decode cX5_due 9 = .ok (.aload_n 0, 1) := by decide +kernel
theorem dX5_due_10 : decode cX5_due 10 = .ok (.getfield 33, 3) := by decide +kernel
theorem dX5_due_13 : decode cX5_due 13 = .ok (.bipush 43, 2) := by decide +kernel
theorem dX5_due_15 : decode cX5_due 15 = .ok (.invokevirtual 37, 3) := by decide +kernel
theorem dX5_due_18 : decode cX5_due 18 = .ok (.aload_n 0, 1) := by decide +kernel
theorem dX5_due_19 : decode cX5_due 19 = .ok (.getfield 9, 3) := by decide +kernel
theorem dX5_due_22 : decode cX5_due 22 = .ok (.aload_n 0, 1) := by decide +kernel
theorem dX5_due_23 : decode cX5_due 23 = .ok (.iload_n 1, 1) := by decide +kernel
theorem dX5_due_24 : decode cX5_due 24 = .ok (.invokevirtual 47, 3) := by decide +kernel
theorem dX5_due_27 : decode cX5_due 27 = .ok (.iadd, 1) := by decide +kernel
theorem dX5_due_28 : decode cX5_due 28 = .ok (.bipush 60, 2) := by decide +kernel
theorem dX5_due_30 : decode cX5_due 30 = .ok (.if_icmp .le 7, 3) := by decide +kernel
theorem dX5_due_33 : decode cX5_due 33 = .ok (.iconst 1, 1) := by decide +kernel
theorem dX5_due_34 : decode cX5_due 34 = .ok (.goto 4, 3) := by decide +kernel
theorem dX5_due_37 : decode cX5_due 37 = .ok (.iconst 0, 1) := by decide +kernel
theorem dX5_due_38 : decode cX5_due 38 = .ok (.ireturn, 1) := by decide +kernel
theorem dX5_goOut_0 : decode cX5_goOut 0 = .ok (.aload_n 0, 1) := by decide +kernel
theorem dX5_goOut_1 : decode cX5_goOut 1 = .ok (.iconst 1, 1) := by decide +kernel
theorem dX5_goOut_2 : decode cX5_goOut 2 = .ok (.putfield 15, 3) := by decide +kernel
theorem dX5_goOut_5 : decode cX5_goOut 5 = .ok (.aload_n 0, 1) := by decide +kernel
theorem dX5_goOut_6 : decode cX5_goOut 6 = .ok (.iload_n 1, 1) := by decide +kernel
theorem dX5_goOut_7 : decode cX5_goOut 7 = .ok (.putfield 18, 3) := by decide +kernel
theorem dX5_goOut_10 : decode cX5_goOut 10 = .ok (.aload_n 0, 1) := by decide +kernel
theorem dX5_goOut_11 : decode cX5_goOut 11 = .ok (.iload_n 2, 1) := by decide +kernel
theorem dX5_goOut_12 : decode cX5_goOut 12 = .ok (.putfield 21, 3) := by decide +kernel
theorem dX5_goOut_15 : decode cX5_goOut 15 = .ok (.return_, 1) := by decide +kernel
theorem dX5_comeBack_0 : decode cX5_comeBack 0 = .ok (.aload_n 0, 1) := by decide +kernel
theorem dX5_comeBack_1 : decode cX5_comeBack 1 = .ok (.iconst (-1), 1) := by decide +kernel
theorem dX5_comeBack_2 : decode cX5_comeBack 2 = .ok (.putfield 18, 3) := by decide +kernel
theorem dX5_comeBack_5 : decode cX5_comeBack 5 = .ok (.aload_n 0, 1) := by decide +kernel
theorem dX5_comeBack_6 : decode cX5_comeBack 6 = .ok (.iconst (-1), 1) := by decide +kernel
theorem dX5_comeBack_7 : decode cX5_comeBack 7 = .ok (.putfield 21, 3) := by decide +kernel
theorem dX5_comeBack_10 : decode cX5_comeBack 10 = .ok (.aload_n 0, 1) := by decide +kernel
theorem dX5_comeBack_11 : decode cX5_comeBack 11 = .ok (.dup, 1) := by decide +kernel
theorem dX5_comeBack_12 : decode cX5_comeBack 12 = .ok (.getfield 9, 3) := by decide +kernel
theorem dX5_comeBack_15 : decode cX5_comeBack 15 = .ok (.aload_n 0, 1) := by decide +kernel
theorem dX5_comeBack_16 : decode cX5_comeBack 16 = .ok (.iload_n 1, 1) := by decide +kernel
theorem dX5_comeBack_17 : decode cX5_comeBack 17 = .ok (.invokevirtual 47, 3) := by decide +kernel
theorem dX5_comeBack_20 : decode cX5_comeBack 20 = .ok (.iadd, 1) := by decide +kernel
theorem dX5_comeBack_21 : decode cX5_comeBack 21 = .ok (.putfield 9, 3) := by decide +kernel
theorem dX5_comeBack_24 : decode cX5_comeBack 24 = .ok (.aload_n 0, 1) := by decide +kernel
theorem dX5_comeBack_25 : decode cX5_comeBack 25 = .ok (.aload_n 0, 1) := by decide +kernel
theorem dX5_comeBack_26 : decode cX5_comeBack 26 = .ok (.invokevirtual 51, 3) := by decide +kernel
theorem dX5_comeBack_29 : decode cX5_comeBack 29 = .ok (.bipush 9, 2) := by decide +kernel
theorem dX5_comeBack_31 : decode cX5_comeBack 31 = .ok (.if_icmp .le 7, 3) := by decide +kernel
theorem dX5_comeBack_34 : decode cX5_comeBack 34 = .ok (.iconst 2, 1) := by decide +kernel
theorem dX5_comeBack_35 : decode cX5_comeBack 35 = .ok (.goto 4, 3) := by decide +kernel
theorem dX5_comeBack_38 : decode cX5_comeBack 38 = .ok (.iconst 0, 1) := by decide +kernel
theorem dX5_comeBack_39 : decode cX5_comeBack 39 = .ok (.putfield 15, 3) := by decide +kernel
theorem dX5_comeBack_42 : decode cX5_comeBack 42 = .ok (.return_, 1) := by decide +kernel
theorem dX5_renew_0 : decode cX5_renew 0 = .ok (.aload_n 0, 1) := by decide +kernel
theorem dX5_renew_1 : decode cX5_renew 1 = .ok (.iconst 0, 1) := by decide +kernel
theorem dX5_renew_2 : decode cX5_renew 2 = .ok (.putfield 9, 3) := by decide +kernel
theorem dX5_renew_5 : decode cX5_renew 5 = .ok (.aload_n 0, 1) := by decide +kernel
theorem dX5_renew_6 : decode cX5_renew 6 = .ok (.iconst 0, 1) := by decide +kernel
theorem dX5_renew_7 : decode cX5_renew 7 = .ok (.putfield 15, 3) := by decide +kernel
theorem dX5_renew_10 : decode cX5_renew 10 = .ok (.return_, 1) := by decide +kernel
theorem dX6_init_0 : decode cX6_init 0 = .ok (.aload_n 0, 1) := by decide +kernel
theorem dX6_init_1 : decode cX6_init 1 = .ok (.invokespecial 3, 3) := by decide +kernel
theorem dX6_init_4 : decode cX6_init 4 = .ok (.aload_n 0, 1) := by decide +kernel
theorem dX6_init_5 : decode cX6_init 5 = .ok (.bipush 8, 2) := by decide +kernel
theorem dX6_init_7 : decode cX6_init 7 = .ok (.newarray .int, 2) := by decide +kernel
theorem dX6_init_9 : decode cX6_init 9 = .ok (.putfield 11, 3) := by decide +kernel
theorem dX6_init_12 : decode cX6_init 12 = .ok (.aload_n 0, 1) := by decide +kernel
theorem dX6_init_13 : decode cX6_init 13 = .ok (.iconst 0, 1) := by decide +kernel
theorem dX6_init_14 : decode cX6_init 14 = .ok (.putfield 15, 3) := by decide +kernel
theorem dX6_init_17 : decode cX6_init 17 = .ok (.aload_n 0, 1) := by decide +kernel
theorem dX6_init_18 : decode cX6_init 18 = .ok (.iconst 0, 1) := by decide +kernel
theorem dX6_init_19 : decode cX6_init 19 = .ok (.putfield 19, 3) := by decide +kernel
theorem dX6_init_22 : decode cX6_init 22 = .ok (.return_, 1) := by decide +kernel
theorem dX6_begin_0 : decode cX6_begin 0 = .ok (.aload_n 0, 1) := by decide +kernel
theorem dX6_begin_1 : decode cX6_begin 1 = .ok (.iconst 0, 1) := by decide +kernel
theorem dX6_begin_2 : decode cX6_begin 2 = .ok (.putfield 15, 3) := by decide +kernel
theorem dX6_begin_5 : decode cX6_begin 5 = .ok (.aload_n 0, 1) := by decide +kernel
theorem dX6_begin_6 : decode cX6_begin 6 = .ok (.iconst 1, 1) := by decide +kernel
theorem dX6_begin_7 : decode cX6_begin 7 = .ok (.putfield 19, 3) := by decide +kernel
theorem dX6_begin_10 : decode cX6_begin 10 = .ok (.return_, 1) := by decide +kernel
theorem dX6_end_0 : decode cX6_end 0 = .ok (.aload_n 0, 1) := by decide +kernel
theorem dX6_end_1 : decode cX6_end 1 = .ok (.iconst 0, 1) := by decide +kernel
theorem dX6_end_2 : decode cX6_end 2 = .ok (.putfield 19, 3) := by decide +kernel
theorem dX6_end_5 : decode cX6_end 5 = .ok (.return_, 1) := by decide +kernel
theorem dX6_leave_0 : decode cX6_leave 0 = .ok (.aload_n 0, 1) := by decide +kernel
theorem dX6_leave_1 : decode cX6_leave 1 = .ok (.getfield 19, 3) := by decide +kernel
theorem dX6_leave_4 : decode cX6_leave 4 = .ok (.ifCond .eq 35, 3) := by decide +kernel
theorem dX6_leave_7 : decode cX6_leave 7 = .ok (.aload_n 0, 1) := by decide +kernel
theorem dX6_leave_8 : decode cX6_leave 8 = .ok (.getfield 15, 3) := by decide +kernel
theorem dX6_leave_11 : decode cX6_leave 11 = .ok (.aload_n 0, 1) := by decide +kernel
theorem dX6_leave_12 : decode cX6_leave 12 = .ok (.getfield 11, 3) := by decide +kernel
theorem dX6_leave_15 : decode cX6_leave 15 = .ok (.arraylength, 1) := by decide +kernel
theorem dX6_leave_16 : decode cX6_leave 16 = .ok (.if_icmp .ge 23, 3) := by decide +kernel
theorem dX6_leave_19 : decode cX6_leave 19 = .ok (.aload_n 0, 1) := by decide +kernel
theorem dX6_leave_20 : decode cX6_leave 20 = .ok (.getfield 11, 3) := by decide +kernel
theorem dX6_leave_23 : decode cX6_leave 23 = .ok (.aload_n 0, 1) := by decide +kernel
theorem dX6_leave_24 : decode cX6_leave 24 = .ok (.getfield 15, 3) := by decide +kernel
theorem dX6_leave_27 : decode cX6_leave 27 = .ok (.iload_n 1, 1) := by decide +kernel
theorem dX6_leave_28 : decode cX6_leave 28 = .ok (.iastore, 1) := by decide +kernel
theorem dX6_leave_29 : decode cX6_leave 29 = .ok (.aload_n 0, 1) := by decide +kernel
theorem dX6_leave_30 : decode cX6_leave 30 = .ok (.dup, 1) := by decide +kernel
theorem dX6_leave_31 : decode cX6_leave 31 = .ok (.getfield 15, 3) := by decide +kernel
theorem dX6_leave_34 : decode cX6_leave 34 = .ok (.iconst 1, 1) := by decide +kernel
theorem dX6_leave_35 : decode cX6_leave 35 = .ok (.iadd, 1) := by decide +kernel
theorem dX6_leave_36 : decode cX6_leave 36 = .ok (.putfield 15, 3) := by decide +kernel
theorem dX6_leave_39 : decode cX6_leave 39 = .ok (.return_, 1) := by decide +kernel
theorem dX6_numberAt_0 : decode cX6_numberAt 0 = .ok (.iload_n 1, 1) := by decide +kernel
theorem dX6_numberAt_1 : decode cX6_numberAt 1 = .ok (.ifCond .lt 29, 3) := by decide +kernel
theorem dX6_numberAt_4 : decode cX6_numberAt 4 = .ok (.iload_n 1, 1) := by decide +kernel
theorem dX6_numberAt_5 : decode cX6_numberAt 5 = .ok (.aload_n 0, 1) := by decide +kernel
theorem dX6_numberAt_6 : decode cX6_numberAt 6 = .ok (.getfield 15, 3) := by decide +kernel
theorem dX6_numberAt_9 : decode cX6_numberAt 9 = .ok (.if_icmp .ge 21, 3) := by decide +kernel
theorem dX6_numberAt_12 : decode cX6_numberAt 12 = .ok (.iload_n 1, 1) := by decide +kernel
theorem dX6_numberAt_13 : decode cX6_numberAt 13 = .ok (.aload_n 0, 1) := by decide +kernel
theorem dX6_numberAt_14 : decode cX6_numberAt 14 = .ok (.getfield 11, 3) := by decide +kernel
theorem dX6_numberAt_17 : decode cX6_numberAt 17 = .ok (.arraylength, 1) := by decide +kernel
theorem dX6_numberAt_18 : decode cX6_numberAt 18 = .ok (.if_icmp .ge 12, 3) := by decide +kernel
theorem dX6_numberAt_21 : decode cX6_numberAt 21 = .ok (.aload_n 0, 1) := by decide +kernel
theorem dX6_numberAt_22 : decode cX6_numberAt 22 = .ok (.getfield 11, 3) := by decide +kernel
theorem dX6_numberAt_25 : decode cX6_numberAt 25 = .ok (.iload_n 1, 1) := by decide +kernel
theorem dX6_numberAt_26 : decode cX6_numberAt 26 = .ok (.iaload, 1) := by decide +kernel
theorem dX6_numberAt_27 : decode cX6_numberAt 27 = .ok (.goto 4, 3) := by decide +kernel
theorem dX6_numberAt_30 : decode cX6_numberAt 30 = .ok (.iconst (-1), 1) := by decide +kernel
theorem dX6_numberAt_31 : decode cX6_numberAt 31 = .ok (.ireturn, 1) := by decide +kernel
theorem dX7_init_0 : decode cX7_init 0 = .ok (.aload_n 0, 1) := by decide +kernel
theorem dX7_init_1 : decode cX7_init 1 = .ok (.iload_n 1, 1) := by decide +kernel
theorem dX7_init_2 : decode cX7_init 2 = .ok (.iload_n 2, 1) := by decide +kernel
theorem dX7_init_3 : decode cX7_init 3 = .ok (.iload_n 3, 1) := by decide +kernel
theorem dX7_init_4 : decode cX7_init 4 = .ok (.aload 4, 2) := by decide +kernel
theorem dX7_init_6 : decode cX7_init 6 = .ok (.invokespecial 1, 3) := by decide +kernel
theorem dX7_init_9 : decode cX7_init 9 = .ok (.return_, 1) := by decide +kernel
theorem dX7_charge_0 : decode cX7_charge 0 = .ok (.aload_n 0, 1) := by decide +kernel
theorem dX7_charge_1 : decode cX7_charge 1 = .ok (.getfield 7, 3) := by decide +kernel
theorem dX7_charge_4 : decode cX7_charge 4 = .ok (.iconst 3, 1) := by decide +kernel
theorem dX7_charge_5 : decode cX7_charge 5 = .ok (.invokevirtual 13, 3) := by decide +kernel
theorem dX7_charge_8 : decode cX7_charge 8 = .ok (.iconst 2, 1) := by decide +kernel
theorem dX7_charge_9 : decode cX7_charge 9 = .ok (.aload_n 0, 1) := by decide +kernel
theorem dX7_charge_10 : decode cX7_charge 10 = .ok (.iload_n 1, 1) := by decide +kernel
theorem dX7_charge_11 : decode cX7_charge 11 = .ok (.invokespecial 19, 3) := by decide +kernel
theorem dX7_charge_14 : decode cX7_charge 14 = .ok (.imul, 1) := by decide +kernel
theorem dX7_charge_15 : decode cX7_charge 15 = .ok (.iconst 5, 1) := by decide +kernel
theorem dX7_charge_16 : decode cX7_charge 16 = .ok (.iconst 0, 1) := by decide +kernel
theorem dX7_charge_17 : decode cX7_charge 17 = .ok (.iload_n 1, 1) := by decide +kernel
theorem dX7_charge_18 : decode cX7_charge 18 = .ok (.bipush 7, 2) := by decide +kernel
theorem dX7_charge_20 : decode cX7_charge 20 = .ok (.isub, 1) := by decide +kernel
theorem dX7_charge_21 : decode cX7_charge 21 = .ok (.invokestatic 23, 3) := by decide +kernel
theorem dX7_charge_24 : decode cX7_charge 24 = .ok (.imul, 1) := by decide +kernel
theorem dX7_charge_25 : decode cX7_charge 25 = .ok (.isub, 1) := by decide +kernel
theorem dX7_charge_26 : decode cX7_charge 26 = .ok (.ireturn, 1) := by decide +kernel
theorem dX7_wear_0 : decode cX7_wear 0 = .ok (.aload_n 0, 1) := by decide +kernel
theorem dX7_wear_1 : decode cX7_wear 1 = .ok (.getfield 7, 3) := by decide +kernel
theorem dX7_wear_4 : decode cX7_wear 4 = .ok (.bipush 12, 2) := by decide +kernel
theorem dX7_wear_6 : decode cX7_wear 6 = .ok (.invokevirtual 13, 3) := by decide +kernel
theorem dX7_wear_9 : decode cX7_wear 9 = .ok (.aload_n 0, 1) := by decide +kernel
theorem dX7_wear_10 : decode cX7_wear 10 = .ok (.iload_n 1, 1) := by decide +kernel
theorem dX7_wear_11 : decode cX7_wear 11 = .ok (.invokespecial 29, 3) := by decide +kernel
theorem dX7_wear_14 : decode cX7_wear 14 = .ok (.aload_n 0, 1) := by decide +kernel
theorem dX7_wear_15 : decode cX7_wear 15 = .ok (.getfield 32, 3) := by decide +kernel
theorem dX7_wear_18 : decode cX7_wear 18 = .ok (.bipush 10, 2) := by decide +kernel
theorem dX7_wear_20 : decode cX7_wear 20 = .ok (.idiv, 1) := by decide +kernel
theorem dX7_wear_21 : decode cX7_wear 21 = .ok (.iadd, 1) := by decide +kernel
theorem dX7_wear_22 : decode cX7_wear 22 = .ok (.ireturn, 1) := by decide +kernel
theorem dX7_deposit_0 : decode cX7_deposit 0 = .ok (.aload_n 0, 1) := by decide +kernel
theorem dX7_deposit_1 : decode cX7_deposit 1 = .ok (.getfield 7, 3) := by decide +kernel
theorem dX7_deposit_4 : decode cX7_deposit 4 = .ok (.bipush 32, 2) := by decide +kernel
theorem dX7_deposit_6 : decode cX7_deposit 6 = .ok (.invokevirtual 13, 3) := by decide +kernel
theorem dX7_deposit_9 : decode cX7_deposit 9 = .ok (.aload_n 0, 1) := by decide +kernel
theorem dX7_deposit_10 : decode cX7_deposit 10 = .ok (.invokespecial 36, 3) := by decide +kernel
theorem dX7_deposit_13 : decode cX7_deposit 13 = .ok (.sipush 500, 3) := by decide +kernel
theorem dX7_deposit_16 : decode cX7_deposit 16 = .ok (.iadd, 1) := by decide +kernel
theorem dX7_deposit_17 : decode cX7_deposit 17 = .ok (.ireturn, 1) := by decide +kernel
theorem dX8_init_0 : decode cX8_init 0 = .ok (.aload_n 0, 1) := by decide +kernel
theorem dX8_init_1 : decode cX8_init 1 = .ok (.invokespecial 1, 3) := by decide +kernel
theorem dX8_init_4 : decode cX8_init 4 = .ok (.aload_n 0, 1) := by decide +kernel
theorem dX8_init_5 : decode cX8_init 5 = .ok (.new 7, 3) := by decide +kernel
theorem dX8_init_8 : decode cX8_init 8 = .ok (.dup, 1) := by decide +kernel
theorem dX8_init_9 : decode cX8_init 9 = .ok (.invokespecial 9, 3) := by decide +kernel
theorem dX8_init_12 : decode cX8_init 12 = .ok (.putfield 10, 3) := by decide +kernel
theorem dX8_init_15 : decode cX8_init 15 = .ok (.aload_n 0, 1) := by decide +kernel
theorem dX8_init_16 : decode cX8_init 16 = .ok (.bipush 24, 2) := by decide +kernel
theorem dX8_init_18 : decode cX8_init 18 = .ok (.anewarray 16, 3) := by decide +kernel
theorem dX8_init_21 : decode cX8_init 21 = .ok (.putfield 18, 3) := by decide +kernel
theorem dX8_init_24 : decode cX8_init 24 = .ok (.aload_n 0, 1) := by decide +kernel
theorem dX8_init_25 : decode cX8_init 25 = .ok (.bipush 6, 2) := by decide +kernel
theorem dX8_init_27 : decode cX8_init 27 = .ok (.newarray .long, 2) := by decide +kernel
theorem dX8_init_29 : decode cX8_init 29 = .ok (.putfield 22, 3) := by decide +kernel
theorem dX8_init_32 : decode cX8_init 32 = .ok (.aload_n 0, 1) := by decide +kernel
theorem dX8_init_33 : decode cX8_init 33 = .ok (.iconst 0, 1) := by decide +kernel
theorem dX8_init_34 : decode cX8_init 34 = .ok (.putfield 26, 3) := by decide +kernel
theorem dX8_init_37 : decode cX8_init 37 = .ok (.aload_n 0, 1) := by decide +kernel
theorem dX8_init_38 : decode cX8_init 38 = .ok (.iconst 0, 1) := by decide +kernel
theorem dX8_init_39 : decode cX8_init 39 = .ok (.putfield 30, 3) := by decide +kernel
theorem dX8_init_42 : decode cX8_init 42 = .ok (.aload_n 0, 1) := by decide +kernel
theorem dX8_init_43 : decode cX8_init 43 = .ok (.iconst 0, 1) := by decide +kernel
theorem dX8_init_44 : decode cX8_init 44 = .ok (.putfield 33, 3) := by decide +kernel
theorem dX8_init_47 : decode cX8_init 47 = .ok (.aload_n 0, 1) := by decide +kernel
theorem dX8_init_48 : decode cX8_init 48 = .ok (.iconst 0, 1) := by decide +kernel
theorem dX8_init_49 : decode cX8_init 49 = .ok (.putfield 36, 3) := by decide +kernel
theorem dX8_init_52 : decode cX8_init 52 = .ok (.return_, 1) := by decide +kernel
theorem dX8_tool_0 : decode cX8_tool 0 = .ok (.iload_n 1, 1) := by decide +kernel
theorem dX8_tool_1 : decode cX8_tool 1 = .ok (.iconst 0, 1) := by decide +kernel
theorem dX8_tool_2 : decode cX8_tool 2 = .ok (.bipush 6, 2) := by decide +kernel
theorem dX8_tool_4 : decode cX8_tool 4 = .ok (.invokestatic 39, 3) := by decide +kernel
theorem dX8_tool_7 : decode cX8_tool 7 = .ok (.ifCond .eq 24, 3) := by decide +kernel
theorem dX8_tool_10 : decode cX8_tool 10 = .ok (.iload_n 2, 1) := by decide +kernel
theorem dX8_tool_11 : decode cX8_tool 11 = .ok (.iconst 1, 1) := by decide +kernel
theorem dX8_tool_12 : decode cX8_tool 12 = .ok (.sipush 1000, 3) := by decide +kernel
theorem dX8_tool_15 : decode cX8_tool 15 = .ok (.invokestatic 39, 3) := by decide +kernel
theorem dX8_tool_18 : decode cX8_tool 18 = .ok (.ifCond .eq 13, 3) := by decide +kernel
theorem dX8_tool_21 : decode cX8_tool 21 = .ok (.iload_n 3, 1) := by decide +kernel
theorem dX8_tool_22 : decode cX8_tool 22 = .ok (.iconst 0, 1) := by decide +kernel
theorem dX8_tool_23 : decode cX8_tool 23 = .ok (.ldc 43, 2) := by decide +kernel
theorem dX8_tool_25 : decode cX8_tool 25 = .ok (.invokestatic 39, 3) := by decide +kernel
theorem dX8_tool_28 : decode cX8_tool 28 = .ok (.ifCond .ne 6, 3) := by decide +kernel
theorem dX8_tool_31 : decode cX8_tool 31 = .ok (.bipush (-2), 2) := by decide +kernel
theorem dX8_tool_33 : decode cX8_tool 33 = .ok (.ireturn, 1) := by decide +kernel
theorem dX8_tool_34 : decode cX8_tool 34 = .ok (.aload_n 0, 1) := by decide +kernel
theorem dX8_tool_35 : decode cX8_tool 35 = .ok (.getfield 26, 3) := by decide +kernel
theorem dX8_tool_38 : decode cX8_tool 38 = .ok (.aload_n 0, 1) := by decide +kernel
theorem dX8_tool_39 : decode cX8_tool 39 = .ok (.getfield 18, 3) := by decide +kernel
theorem dX8_tool_42 : decode cX8_tool 42 = .ok (.arraylength, 1) := by decide +kernel
theorem dX8_tool_43 : decode cX8_tool 43 = .ok (.if_icmp .lt 6, 3) := by decide +kernel
theorem dX8_tool_46 : decode cX8_tool 46 = .ok (.bipush (-4), 2) := by decide +kernel
theorem dX8_tool_48 : decode cX8_tool 48 = .ok (.ireturn, 1) := by decide +kernel
theorem dX8_tool_49 : decode cX8_tool 49 = .ok (.aload_n 0, 1) := by decide +kernel
theorem dX8_tool_50 : decode cX8_tool 50 = .ok (.getfield 26, 3) := by decide +kernel
theorem dX8_tool_53 : decode cX8_tool 53 = .ok (.istore 4, 2) := by decide +kernel
theorem dX8_tool_55 : decode cX8_tool 55 = .ok (.aload_n 0, 1) := by decide +kernel
theorem dX8_tool_56 : decode cX8_tool 56 = .ok (.getfield 18, 3) := by decide +kernel
theorem dX8_tool_59 : decode cX8_tool 59 = .ok (.iload 4, 2) := by decide +kernel
theorem dX8_tool_61 : decode cX8_tool 61 = .ok (.aload_n 0, 1) := by decide +kernel
theorem dX8_tool_62 : decode cX8_tool 62 = .ok (.iload_n 1, 1) := by decide +kernel
theorem dX8_tool_63 : decode cX8_tool 63 = .ok (.iload_n 2, 1) := by decide +kernel
theorem dX8_tool_64 : decode cX8_tool 64 = .ok (.iload_n 3, 1) := by decide +kernel
theorem dX8_tool_65 : decode cX8_tool 65 = .ok (.invokevirtual 44, 3) := by decide +kernel
theorem dX8_tool_68 : decode cX8_tool 68 = .ok (.aastore, 1) := by decide +kernel
theorem dX8_tool_69 : decode cX8_tool 69 = .ok (.aload_n 0, 1) := by decide +kernel
theorem dX8_tool_70 : decode cX8_tool 70 = .ok (.dup, 1) := by decide +kernel
theorem dX8_tool_71 : decode cX8_tool 71 = .ok (.getfield 26, 3) := by decide +kernel
theorem dX8_tool_74 : decode cX8_tool 74 = .ok (.iconst 1, 1) := by decide +kernel
theorem dX8_tool_75 : decode cX8_tool 75 = .ok (.iadd, 1) := by decide +kernel
theorem dX8_tool_76 : decode cX8_tool 76 = .ok (.putfield 26, 3) := by decide +kernel
theorem dX8_tool_79 : decode cX8_tool 79 = .ok (.iload 4, 2) := by decide +kernel
theorem dX8_tool_81 : decode cX8_tool 81 = .ok (.ireturn, 1) := by decide +kernel
theorem dX8_ask_0 : decode cX8_ask 0 = .ok (.aload_n 0, 1) := by decide +kernel
theorem dX8_ask_1 : decode cX8_ask 1 = .ok (.iload_n 1, 1) := by decide +kernel
theorem dX8_ask_2 : decode cX8_ask 2 = .ok (.invokevirtual 48, 3) := by decide +kernel
theorem dX8_ask_5 : decode cX8_ask 5 = .ok (.astore 4, 2) := by decide +kernel
theorem dX8_ask_7 : decode cX8_ask 7 = .ok (.aload 4, 2) := by decide +kernel
theorem dX8_ask_9 : decode cX8_ask 9 = .ok (.ifnull 23, 3) := by decide +kernel
theorem dX8_ask_12 : decode cX8_ask 12 = .ok (.iload_n 2, 1) := by decide +kernel
theorem dX8_ask_13 : decode cX8_ask 13 = .ok (.iconst 0, 1) := by decide +kernel
theorem dX8_ask_14 : decode cX8_ask 14 = .ok (.iconst 5, 1) := by decide +kernel
theorem dX8_ask_15 : decode cX8_ask 15 = .ok (.invokestatic 39, 3) := by decide +kernel
theorem dX8_ask_18 : decode cX8_ask 18 = .ok (.ifCond .eq 14, 3) := by decide +kernel
theorem dX8_ask_21 : decode cX8_ask 21 = .ok (.iload_n 3, 1) := by decide +kernel
theorem dX8_ask_22 : decode cX8_ask 22 = .ok (.iconst 0, 1) := by decide +kernel
theorem dX8_ask_23 : decode cX8_ask 23 = .ok (.sipush 400, 3) := by decide +kernel
theorem dX8_ask_26 : decode cX8_ask 26 = .ok (.invokestatic 39, 3) := by decide +kernel
theorem dX8_ask_29 : decode cX8_ask 29 = .ok (.ifCond .ne 6, 3) := by decide +kernel
theorem dX8_ask_32 : decode cX8_ask 32 = .ok (.bipush (-2), 2) := by decide +kernel
theorem dX8_ask_34 : decode cX8_ask 34 = .ok (.ireturn, 1) := by decide +kernel
theorem dX8_ask_35 : decode cX8_ask 35 = .ok (.aload_n 0, 1) := by decide +kernel
theorem dX8_ask_36 : decode cX8_ask 36 = .ok (.getfield 10, 3) := by decide +kernel
theorem dX8_ask_39 : decode cX8_ask 39 = .ok (.invokevirtual 52, 3) := by decide +kernel
theorem dX8_ask_42 : decode cX8_ask 42 = .ok (.aload 4, 2) := by decide +kernel
theorem dX8_ask_44 : decode cX8_ask 44 = .ok (.iload_n 2, 1) := by decide +kernel
theorem dX8_ask_45 : decode cX8_ask 45 = .ok (.invokestatic 55, 3) := by decide +kernel
theorem dX8_ask_48 : decode cX8_ask 48 = .ok (.ifCond .eq 13, 3) := by decide +kernel
theorem dX8_ask_51 : decode cX8_ask 51 = .ok (.aload 4, 2) := by decide +kernel
theorem dX8_ask_53 : decode cX8_ask 53 = .ok (.iload_n 2, 1) := by decide +kernel
theorem dX8_ask_54 : decode cX8_ask 54 = .ok (.iload_n 3, 1) := by decide +kernel
theorem dX8_ask_55 : decode cX8_ask 55 = .ok (.invokestatic 59, 3) := by decide +kernel
theorem dX8_ask_58 : decode cX8_ask 58 = .ok (.goto 5, 3) := by decide +kernel
theorem dX8_ask_61 : decode cX8_ask 61 = .ok (.bipush (-3), 2) := by decide +kernel
theorem dX8_ask_63 : decode cX8_ask 63 = .ok (.istore 5, 2) := by decide +kernel
theorem dX8_ask_65 : decode cX8_ask 65 = .ok (.aload_n 0, 1) := by decide +kernel
theorem dX8_ask_66 : decode cX8_ask 66 = .ok (.getfield 10, 3) := by decide +kernel
theorem dX8_ask_69 : decode cX8_ask 69 = .ok (.invokevirtual 63, 3) := by decide +kernel
theorem dX8_ask_72 : decode cX8_ask 72 = .ok (.iload 5, 2) := by decide +kernel
theorem dX8_ask_74 : decode cX8_ask 74 = .ok (.ireturn, 1) := by decide +kernel
theorem dX8_trace_0 : decode cX8_trace 0 = .ok (.aload_n 0, 1) := by decide +kernel
theorem dX8_trace_1 : decode cX8_trace 1 = .ok (.getfield 10, 3) := by decide +kernel
theorem dX8_trace_4 : decode cX8_trace 4 = .ok (.iload_n 1, 1) := by decide +kernel
theorem dX8_trace_5 : decode cX8_trace 5 = .ok (.invokevirtual 66, 3) := by decide +kernel
theorem dX8_trace_8 : decode cX8_trace 8 = .ok (.ireturn, 1) := by decide +kernel
theorem dX8_hire_0 : decode cX8_hire 0 = .ok (.aload_n 0, 1) := by decide +kernel
theorem dX8_hire_1 : decode cX8_hire 1 = .ok (.iload_n 1, 1) := by decide +kernel
theorem dX8_hire_2 : decode cX8_hire 2 = .ok (.invokevirtual 48, 3) := by decide +kernel
theorem dX8_hire_5 : decode cX8_hire 5 = .ok (.astore_n 3, 1) := by decide +kernel
theorem dX8_hire_6 : decode cX8_hire 6 = .ok (.aload_n 3, 1) := by decide +kernel
theorem dX8_hire_7 : decode cX8_hire 7 = .ok (.ifnull 10, 3) := by decide +kernel
theorem dX8_hire_10 : decode cX8_hire 10 = .ok (.iload_n 2, 1) := by decide +kernel
theorem dX8_hire_11 : decode cX8_hire 11 = .ok (.invokestatic 70, 3) := by decide +kernel
theorem dX8_hire_14 : decode cX8_hire 14 = .ok (.ifCond .ne 6, 3) := by decide +kernel
theorem dX8_hire_17 : decode cX8_hire 17 = .ok (.bipush (-2), 2) := by decide +kernel
theorem dX8_hire_19 : decode cX8_hire 19 = .ok (.ireturn, 1) := by decide +kernel
theorem dX8_hire_20 : decode cX8_hire 20 = .ok (.aload_n 3, 1) := by decide +kernel
theorem dX8_hire_21 : decode cX8_hire 21 = .ok (.getfield 74, 3) := by decide +kernel
theorem dX8_hire_24 : decode cX8_hire 24 = .ok (.ifCond .ne 12, 3) := by decide +kernel
theorem dX8_hire_27 : decode cX8_hire 27 = .ok (.aload_n 3, 1) := by decide +kernel
