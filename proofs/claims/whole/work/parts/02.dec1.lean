theorem dX0_isKind_0 : decode cX0_isKind 0 = .ok (.iload_n 0, 1) := by decide +kernel
theorem dX0_isKind_1 : decode cX0_isKind 1 = .ok (.ifCond .lt 13, 3) := by decide +kernel
theorem dX0_isKind_4 : decode cX0_isKind 4 = .ok (.iload_n 0, 1) := by decide +kernel
theorem dX0_isKind_5 : decode cX0_isKind 5 = .ok (.bipush 6, 2) := by decide +kernel
theorem dX0_isKind_7 : decode cX0_isKind 7 = .ok (.if_icmp .ge 7, 3) := by decide +kernel
theorem dX0_isKind_10 : decode cX0_isKind 10 = .ok (.iconst 1, 1) := by decide +kernel
theorem dX0_isKind_11 : decode cX0_isKind 11 = .ok (.goto 4, 3) := by decide +kernel
theorem dX0_isKind_14 : decode cX0_isKind 14 = .ok (.iconst 0, 1) := by decide +kernel
theorem dX0_isKind_15 : decode cX0_isKind 15 = .ok (.ireturn, 1) := by decide +kernel
theorem dX0_isUnder_0 : decode cX0_isUnder 0 = .ok (.iload_n 0, 1) := by decide +kernel
theorem dX0_isUnder_1 : decode cX0_isUnder 1 = .ok (.istore_n 2, 1) := by decide +kernel
theorem dX0_isUnder_2 : decode cX0_isUnder 2 = .ok (.iconst 0, 1) := by decide +kernel
theorem dX0_isUnder_3 : decode cX0_isUnder 3 = .ok (.istore_n 3, 1) := by decide +kernel
theorem dX0_isUnder_4 : decode cX0_isUnder 4 = .ok (.iload_n 3, 1) := by decide +kernel
theorem dX0_isUnder_5 : decode cX0_isUnder 5 = .ok (.bipush 6, 2) := by decide +kernel
theorem dX0_isUnder_7 : decode cX0_isUnder 7 = .ok (.if_icmp .ge 29, 3) := by decide +kernel
theorem dX0_isUnder_10 : decode cX0_isUnder 10 = .ok (.iload_n 2, 1) := by decide +kernel
theorem dX0_isUnder_11 : decode cX0_isUnder 11 = .ok (.invokestatic 9, 3) := by decide +kernel
theorem dX0_isUnder_14 : decode cX0_isUnder 14 = .ok (.ifCond .eq 22, 3) := by decide +kernel
theorem dX0_isUnder_17 : decode cX0_isUnder 17 = .ok (.iload_n 2, 1) := by decide +kernel
theorem dX0_isUnder_18 : decode cX0_isUnder 18 = .ok (.iload_n 1, 1) := by decide +kernel
theorem dX0_isUnder_19 : decode cX0_isUnder 19 = .ok (.if_icmp .ne 5, 3) := by decide +kernel
theorem dX0_isUnder_22 : decode cX0_isUnder 22 = .ok (.iconst 1, 1) := by decide +kernel
theorem dX0_isUnder_23 : decode cX0_isUnder 23 = .ok (.ireturn, 1) := by decide +kernel
theorem dX0_isUnder_24 : decode cX0_isUnder 24 = .ok (.getstatic 13, 3) := by decide +kernel
theorem dX0_isUnder_27 : decode cX0_isUnder 27 = .ok (.iload_n 2, 1) := by decide +kernel
theorem dX0_isUnder_28 : decode cX0_isUnder 28 = .ok (.iaload, 1) := by decide +kernel
theorem dX0_isUnder_29 : decode cX0_isUnder 29 = .ok (.istore_n 2, 1) := by decide +kernel
theorem dX0_isUnder_30 : decode cX0_isUnder 30 = .ok (.iinc 3 1, 3) := by decide +kernel
theorem dX0_isUnder_33 : decode cX0_isUnder 33 = .ok (.goto (-29), 3) := by decide +kernel
theorem dX0_isUnder_36 : decode cX0_isUnder 36 = .ok (.iconst 0, 1) := by decide +kernel
theorem dX0_isUnder_37 : decode cX0_isUnder 37 = .ok (.ireturn, 1) := by decide +kernel
theorem dX0_high_0 : decode cX0_high 0 = .ok (.iload_n 0, 1) := by decide +kernel
theorem dX0_high_1 : decode cX0_high 1 = .ok (.tableswitch 63 1 5 #[35, 49, 39, 49, 61], 35) := by decide +kernel
theorem dX0_high_36 : decode cX0_high 36 = .ok (.iload_n 1, 1) := by decide +kernel
theorem dX0_high_37 : decode cX0_high 37 = .ok (.iconst 2, 1) := by decide +kernel
theorem dX0_high_38 : decode cX0_high 38 = .ok (.idiv, 1) := by decide +kernel
theorem dX0_high_39 : decode cX0_high 39 = .ok (.ireturn, 1) := by decide +kernel
theorem dX0_high_40 : decode cX0_high 40 = .ok (.iconst 0, 1) := by decide +kernel
theorem dX0_high_41 : decode cX0_high 41 = .ok (.iload_n 1, 1) := by decide +kernel
theorem dX0_high_42 : decode cX0_high 42 = .ok (.iconst 2, 1) := by decide +kernel
theorem dX0_high_43 : decode cX0_high 43 = .ok (.idiv, 1) := by decide +kernel
theorem dX0_high_44 : decode cX0_high 44 = .ok (.iconst 2, 1) := by decide +kernel
theorem dX0_high_45 : decode cX0_high 45 = .ok (.isub, 1) := by decide +kernel
theorem dX0_high_46 : decode cX0_high 46 = .ok (.invokestatic 17, 3) := by decide +kernel
theorem dX0_high_49 : decode cX0_high 49 = .ok (.ireturn, 1) := by decide +kernel
theorem dX0_high_50 : decode cX0_high 50 = .ok (.iload_n 2, 1) := by decide +kernel
theorem dX0_high_51 : decode cX0_high 51 = .ok (.ifCond .le 9, 3) := by decide +kernel
theorem dX0_high_54 : decode cX0_high 54 = .ok (.iload_n 1, 1) := by decide +kernel
theorem dX0_high_55 : decode cX0_high 55 = .ok (.iconst 1, 1) := by decide +kernel
theorem dX0_high_56 : decode cX0_high 56 = .ok (.iadd, 1) := by decide +kernel
theorem dX0_high_57 : decode cX0_high 57 = .ok (.goto 4, 3) := by decide +kernel
theorem dX0_high_60 : decode cX0_high 60 = .ok (.iload_n 1, 1) := by decide +kernel
theorem dX0_high_61 : decode cX0_high 61 = .ok (.ireturn, 1) := by decide +kernel
theorem dX0_high_62 : decode cX0_high 62 = .ok (.iconst 0, 1) := by decide +kernel
theorem dX0_high_63 : decode cX0_high 63 = .ok (.ireturn, 1) := by decide +kernel
theorem dX0_high_64 : decode cX0_high 64 = .ok (.iload_n 1, 1) := by decide +kernel
theorem dX0_high_65 : decode cX0_high 65 = .ok (.ireturn, 1) := by decide +kernel
theorem dX0_loses_0 : decode cX0_loses 0 = .ok (.iload_n 0, 1) := by decide +kernel
theorem dX0_loses_1 : decode cX0_loses 1 = .ok (.lookupswitch 43 #[(2, 27), (4, 32)], 27) := by decide +kernel
theorem dX0_loses_28 : decode cX0_loses 28 = .ok (.iload_n 1, 1) := by decide +kernel
theorem dX0_loses_29 : decode cX0_loses 29 = .ok (.bipush 20, 2) := by decide +kernel
theorem dX0_loses_31 : decode cX0_loses 31 = .ok (.idiv, 1) := by decide +kernel
theorem dX0_loses_32 : decode cX0_loses 32 = .ok (.ireturn, 1) := by decide +kernel
theorem dX0_loses_33 : decode cX0_loses 33 = .ok (.iconst 0, 1) := by decide +kernel
theorem dX0_loses_34 : decode cX0_loses 34 = .ok (.iload_n 1, 1) := by decide +kernel
theorem dX0_loses_35 : decode cX0_loses 35 = .ok (.bipush 20, 2) := by decide +kernel
theorem dX0_loses_37 : decode cX0_loses 37 = .ok (.idiv, 1) := by decide +kernel
theorem dX0_loses_38 : decode cX0_loses 38 = .ok (.iconst 1, 1) := by decide +kernel
theorem dX0_loses_39 : decode cX0_loses 39 = .ok (.isub, 1) := by decide +kernel
theorem dX0_loses_40 : decode cX0_loses 40 = .ok (.invokestatic 17, 3) := by decide +kernel
theorem dX0_loses_43 : decode cX0_loses 43 = .ok (.ireturn, 1) := by decide +kernel
theorem dX0_loses_44 : decode cX0_loses 44 = .ok (.iconst 0, 1) := by decide +kernel
theorem dX0_loses_45 : decode cX0_loses 45 = .ok (.ireturn, 1) := by decide +kernel
theorem dX0_takesIn_0 : decode cX0_takesIn 0 = .ok (.iload_n 0, 1) := by decide +kernel
theorem dX0_takesIn_1 : decode cX0_takesIn 1 = .ok (.lookupswitch 33 #[(3, 27), (5, 31)], 27) := by decide +kernel
theorem dX0_takesIn_28 : decode cX0_takesIn 28 = .ok (.iload_n 1, 1) := by decide +kernel
theorem dX0_takesIn_29 : decode cX0_takesIn 29 = .ok (.iconst 2, 1) := by decide +kernel
theorem dX0_takesIn_30 : decode cX0_takesIn 30 = .ok (.idiv, 1) := by decide +kernel
theorem dX0_takesIn_31 : decode cX0_takesIn 31 = .ok (.ireturn, 1) := by decide +kernel
theorem dX0_takesIn_32 : decode cX0_takesIn 32 = .ok (.iconst 0, 1) := by decide +kernel
theorem dX0_takesIn_33 : decode cX0_takesIn 33 = .ok (.ireturn, 1) := by decide +kernel
theorem dX0_takesIn_34 : decode cX0_takesIn 34 = .ok (.iload_n 1, 1) := by decide +kernel
theorem dX0_takesIn_35 : decode cX0_takesIn 35 = .ok (.ireturn, 1) := by decide +kernel
theorem dX0_worth_0 : decode cX0_worth 0 = .ok (.iload_n 0, 1) := by decide +kernel
theorem dX0_worth_1 : decode cX0_worth 1 = .ok (.tableswitch 62 1 5 #[35, 47, 40, 52, 60], 35) := by decide +kernel
theorem dX0_worth_36 : decode cX0_worth 36 = .ok (.iload_n 1, 1) := by decide +kernel
theorem dX0_worth_37 : decode cX0_worth 37 = .ok (.bipush 6, 2) := by decide +kernel
theorem dX0_worth_39 : decode cX0_worth 39 = .ok (.iadd, 1) := by decide +kernel
theorem dX0_worth_40 : decode cX0_worth 40 = .ok (.ireturn, 1) := by decide +kernel
theorem dX0_worth_41 : decode cX0_worth 41 = .ok (.iconst 2, 1) := by decide +kernel
theorem dX0_worth_42 : decode cX0_worth 42 = .ok (.iload_n 1, 1) := by decide +kernel
theorem dX0_worth_43 : decode cX0_worth 43 = .ok (.bipush 6, 2) := by decide +kernel
theorem dX0_worth_45 : decode cX0_worth 45 = .ok (.iadd, 1) := by decide +kernel
theorem dX0_worth_46 : decode cX0_worth 46 = .ok (.imul, 1) := by decide +kernel
theorem dX0_worth_47 : decode cX0_worth 47 = .ok (.ireturn, 1) := by decide +kernel
theorem dX0_worth_48 : decode cX0_worth 48 = .ok (.bipush 99, 2) := by decide +kernel
theorem dX0_worth_50 : decode cX0_worth 50 = .ok (.iload_n 1, 1) := by decide +kernel
theorem dX0_worth_51 : decode cX0_worth 51 = .ok (.isub, 1) := by decide +kernel
theorem dX0_worth_52 : decode cX0_worth 52 = .ok (.ireturn, 1) := by decide +kernel
theorem dX0_worth_53 : decode cX0_worth 53 = .ok (.bipush 99, 2) := by decide +kernel
theorem dX0_worth_55 : decode cX0_worth 55 = .ok (.iload_n 1, 1) := by decide +kernel
theorem dX0_worth_56 : decode cX0_worth 56 = .ok (.isub, 1) := by decide +kernel
theorem dX0_worth_57 : decode cX0_worth 57 = .ok (.bipush 8, 2) := by decide +kernel
theorem dX0_worth_59 : decode cX0_worth 59 = .ok (.isub, 1) := by decide +kernel
theorem dX0_worth_60 : decode cX0_worth 60 = .ok (.ireturn, 1) := by decide +kernel
theorem dX0_worth_61 : decode cX0_worth 61 = .ok (.iconst 3, 1) := by decide +kernel
theorem dX0_worth_62 : decode cX0_worth 62 = .ok (.ireturn, 1) := by decide +kernel
theorem dX0_worth_63 : decode cX0_worth 63 = .ok (.iload_n 1, 1) := by decide +kernel
theorem dX0_worth_64 : decode cX0_worth 64 = .ok (.ireturn, 1) := by decide +kernel
theorem dX1_init_0 : decode cX1_init 0 = .ok (.aload_n 0, 1) := by decide +kernel
theorem dX1_init_1 : decode cX1_init 1 = .ok (.invokespecial 3, 3) := by decide +kernel
theorem dX1_init_4 : decode cX1_init 4 = .ok (.aload_n 0, 1) := by decide +kernel
theorem dX1_init_5 : decode cX1_init 5 = .ok (.bipush 96, 2) := by decide +kernel
theorem dX1_init_7 : decode cX1_init 7 = .ok (.newarray .int, 2) := by decide +kernel
theorem dX1_init_9 : decode cX1_init 9 = .ok (.putfield 9, 3) := by decide +kernel
theorem dX1_init_12 : decode cX1_init 12 = .ok (.return_, 1) := by decide +kernel
theorem dX1_clear_0 : decode cX1_clear 0 = .ok (.aload_n 0, 1) := by decide +kernel
theorem dX1_clear_1 : decode cX1_clear 1 = .ok (.iconst 0, 1) := by decide +kernel
theorem dX1_clear_2 : decode cX1_clear 2 = .ok (.putfield 15, 3) := by decide +kernel
theorem dX1_clear_5 : decode cX1_clear 5 = .ok (.aload_n 0, 1) := by decide +kernel
theorem dX1_clear_6 : decode cX1_clear 6 = .ok (.iconst 0, 1) := by decide +kernel
theorem dX1_clear_7 : decode cX1_clear 7 = .ok (.putfield 19, 3) := by decide +kernel
theorem dX1_clear_10 : decode cX1_clear 10 = .ok (.aload_n 0, 1) := by decide +kernel
theorem dX1_clear_11 : decode cX1_clear 11 = .ok (.iconst 0, 1) := by decide +kernel
theorem dX1_clear_12 : decode cX1_clear 12 = .ok (.putfield 22, 3) := by decide +kernel
theorem dX1_clear_15 : decode cX1_clear 15 = .ok (.return_, 1) := by decide +kernel
theorem dX1_become_0 : decode cX1_become 0 = .ok (.aload_n 0, 1) := by decide +kernel
theorem dX1_become_1 : decode cX1_become 1 = .ok (.aload_n 1, 1) := by decide +kernel
theorem dX1_become_2 : decode cX1_become 2 = .ok (.getfield 15, 3) := by decide +kernel
theorem dX1_become_5 : decode cX1_become 5 = .ok (.putfield 15, 3) := by decide +kernel
theorem dX1_become_8 : decode cX1_become 8 = .ok (.aload_n 0, 1) := by decide +kernel
theorem dX1_become_9 : decode cX1_become 9 = .ok (.aload_n 1, 1) := by decide +kernel
theorem dX1_become_10 : decode cX1_become 10 = .ok (.getfield 19, 3) := by decide +kernel
theorem dX1_become_13 : decode cX1_become 13 = .ok (.putfield 19, 3) := by decide +kernel
theorem dX1_become_16 : decode cX1_become 16 = .ok (.aload_n 0, 1) := by decide +kernel
theorem dX1_become_17 : decode cX1_become 17 = .ok (.aload_n 1, 1) := by decide +kernel
theorem dX1_become_18 : decode cX1_become 18 = .ok (.getfield 22, 3) := by decide +kernel
theorem dX1_become_21 : decode cX1_become 21 = .ok (.putfield 22, 3) := by decide +kernel
theorem dX1_become_24 : decode cX1_become 24 = .ok (.aload_n 1, 1) := by decide +kernel
theorem dX1_become_25 : decode cX1_become 25 = .ok (.getfield 9, 3) := by decide +kernel
theorem dX1_become_28 : decode cX1_become 28 = .ok (.iconst 0, 1) := by decide +kernel
theorem dX1_become_29 : decode cX1_become 29 = .ok (.aload_n 0, 1) := by decide +kernel
theorem dX1_become_30 : decode cX1_become 30 = .ok (.getfield 9, 3) := by decide +kernel
theorem dX1_become_33 : decode cX1_become 33 = .ok (.iconst 0, 1) := by decide +kernel
theorem dX1_become_34 : decode cX1_become 34 = .ok (.aload_n 1, 1) := by decide +kernel
theorem dX1_become_35 : decode cX1_become 35 = .ok (.getfield 22, 3) := by decide +kernel
theorem dX1_become_38 : decode cX1_become 38 = .ok (.invokestatic 25, 3) := by decide +kernel
theorem dX1_become_41 : decode cX1_become 41 = .ok (.return_, 1) := by decide +kernel
theorem dX1_addNumber_0 : decode cX1_addNumber 0 = .ok (.aload_n 0, 1) := by decide +kernel
theorem dX1_addNumber_1 : decode cX1_addNumber 1 = .ok (.dup, 1) := by decide +kernel
theorem dX1_addNumber_2 : decode cX1_addNumber 2 = .ok (.getfield 19, 3) := by decide +kernel
theorem dX1_addNumber_5 : decode cX1_addNumber 5 = .ok (.iconst 1, 1) := by decide +kernel
theorem dX1_addNumber_6 : decode cX1_addNumber 6 = .ok (.iadd, 1) := by decide +kernel
theorem dX1_addNumber_7 : decode cX1_addNumber 7 = .ok (.putfield 19, 3) := by decide +kernel
theorem dX1_addNumber_10 : decode cX1_addNumber 10 = .ok (.aload_n 0, 1) := by decide +kernel
theorem dX1_addNumber_11 : decode cX1_addNumber 11 = .ok (.iload_n 1, 1) := by decide +kernel
theorem dX1_addNumber_12 : decode cX1_addNumber 12 = .ok (.invokevirtual 31, 3) := by decide +kernel
theorem dX1_addNumber_15 : decode cX1_addNumber 15 = .ok (.return_, 1) := by decide +kernel
theorem dX1_addName_0 : decode cX1_addName 0 = .ok (.aload_n 0, 1) := by decide +kernel
theorem dX1_addName_1 : decode cX1_addName 1 = .ok (.dup, 1) := by decide +kernel
theorem dX1_addName_2 : decode cX1_addName 2 = .ok (.getfield 19, 3) := by decide +kernel
theorem dX1_addName_5 : decode cX1_addName 5 = .ok (.iconst 1, 1) := by decide +kernel
theorem dX1_addName_6 : decode cX1_addName 6 = .ok (.iadd, 1) := by decide +kernel
theorem dX1_addName_7 : decode cX1_addName 7 = .ok (.putfield 19, 3) := by decide +kernel
theorem dX1_addName_10 : decode cX1_addName 10 = .ok (.aload_n 0, 1) := by decide +kernel
theorem dX1_addName_11 : decode cX1_addName 11 = .ok (.sipush 10000, 3) := by decide +kernel
theorem dX1_addName_14 : decode cX1_addName 14 = .ok (.iload_n 1, 1) := by decide +kernel
theorem dX1_addName_15 : decode cX1_addName 15 = .ok (.iadd, 1) := by decide +kernel
theorem dX1_addName_16 : decode cX1_addName 16 = .ok (.invokevirtual 31, 3) := by decide +kernel
theorem dX1_addName_19 : decode cX1_addName 19 = .ok (.return_, 1) := by decide +kernel
theorem dX1_addSign_0 : decode cX1_addSign 0 = .ok (.aload_n 0, 1) := by decide +kernel
theorem dX1_addSign_1 : decode cX1_addSign 1 = .ok (.sipush 20000, 3) := by decide +kernel
theorem dX1_addSign_4 : decode cX1_addSign 4 = .ok (.iload_n 1, 1) := by decide +kernel
theorem dX1_addSign_5 : decode cX1_addSign 5 = .ok (.iadd, 1) := by decide +kernel
theorem dX1_addSign_6 : decode cX1_addSign 6 = .ok (.invokevirtual 31, 3) := by decide +kernel
theorem dX1_addSign_9 : decode cX1_addSign 9 = .ok (.return_, 1) := by decide +kernel
theorem dX1_add_0 : decode cX1_add 0 = .ok (.aload_n 0, 1) := by decide +kernel
theorem dX1_add_1 : decode cX1_add 1 = .ok (.getfield 22, 3) := by decide +kernel
theorem dX1_add_4 : decode cX1_add 4 = .ok (.bipush 96, 2) := by decide +kernel
theorem dX1_add_6 : decode cX1_add 6 = .ok (.if_icmp .ge 23, 3) := by decide +kernel
theorem dX1_add_9 : decode cX1_add 9 = .ok (.aload_n 0, 1) := by decide +kernel
theorem dX1_add_10 : decode cX1_add 10 = .ok (.getfield 9, 3) := by decide +kernel
theorem dX1_add_13 : decode cX1_add 13 = .ok (.aload_n 0, 1) := by decide +kernel
theorem dX1_add_14 : decode cX1_add 14 = .ok (.getfield 22, 3) := by decide +kernel
theorem dX1_add_17 : decode cX1_add 17 = .ok (.iload_n 1, 1) := by decide +kernel
theorem dX1_add_18 : decode cX1_add 18 = .ok (.iastore, 1) := by decide +kernel
theorem dX1_add_19 : decode cX1_add 19 = .ok (.aload_n 0, 1) := by decide +kernel
theorem dX1_add_20 : decode cX1_add 20 = .ok (.dup, 1) := by decide +kernel
theorem dX1_add_21 : decode cX1_add 21 = .ok (.getfield 22, 3) := by decide +kernel
theorem dX1_add_24 : decode cX1_add 24 = .ok (.iconst 1, 1) := by decide +kernel
theorem dX1_add_25 : decode cX1_add 25 = .ok (.iadd, 1) := by decide +kernel
theorem dX1_add_26 : decode cX1_add 26 = .ok (.putfield 22, 3) := by decide +kernel
theorem dX1_add_29 : decode cX1_add 29 = .ok (.return_, 1) := by decide +kernel
theorem dX1_give_0 : decode cX1_give 0 = .ok (.iconst 0, 1) := by decide +kernel
theorem dX1_give_1 : decode cX1_give 1 = .ok (.istore 5, 2) := by decide +kernel
theorem dX1_give_3 : decode cX1_give 3 = .ok (.iconst 0, 1) := by decide +kernel
theorem dX1_give_4 : decode cX1_give 4 = .ok (.istore 6, 2) := by decide +kernel
theorem dX1_give_6 : decode cX1_give 6 = .ok (.iload 6, 2) := by decide +kernel
theorem dX1_give_8 : decode cX1_give 8 = .ok (.aload_n 0, 1) := by decide +kernel
theorem dX1_give_9 : decode cX1_give 9 = .ok (.getfield 22, 3) := by decide +kernel
theorem dX1_give_12 : decode cX1_give 12 = .ok (.if_icmp .ge 166, 3) := by decide +kernel
theorem dX1_give_15 : decode cX1_give 15 = .ok (.iload 5, 2) := by decide +kernel
theorem dX1_give_17 : decode cX1_give 17 = .ok (.aload 4, 2) := by decide +kernel
theorem dX1_give_19 : decode cX1_give 19 = .ok (.arraylength, 1) := by decide +kernel
theorem dX1_give_20 : decode cX1_give 20 = .ok (.if_icmp .ge 158, 3) := by decide +kernel
theorem dX1_give_23 : decode cX1_give 23 = .ok (.aload_n 0, 1) := by decide +kernel
theorem dX1_give_24 : decode cX1_give 24 = .ok (.getfield 9, 3) := by decide +kernel
theorem dX1_give_27 : decode cX1_give 27 = .ok (.iload 6, 2) := by decide +kernel
theorem dX1_give_29 : decode cX1_give 29 = .ok (.iaload, 1) := by decide +kernel
theorem dX1_give_30 : decode cX1_give 30 = .ok (.istore 7, 2) := by decide +kernel
theorem dX1_give_32 : decode cX1_give 32 = .ok (.iload 7, 2) := by decide +kernel
theorem dX1_give_34 : decode cX1_give 34 = .ok (.sipush 10000, 3) := by decide +kernel
theorem dX1_give_37 : decode cX1_give 37 = .ok (.if_icmp .ge 16, 3) := by decide +kernel
theorem dX1_give_40 : decode cX1_give 40 = .ok (.aload 4, 2) := by decide +kernel
theorem dX1_give_42 : decode cX1_give 42 = .ok (.iload 5, 2) := by decide +kernel
theorem dX1_give_44 : decode cX1_give 44 = .ok (.iload 7, 2) := by decide +kernel
theorem dX1_give_46 : decode cX1_give 46 = .ok (.iastore, 1) := by decide +kernel
theorem dX1_give_47 : decode cX1_give 47 = .ok (.iinc 5 1, 3) := by decide +kernel
theorem dX1_give_50 : decode cX1_give 50 = .ok (.goto 122, 3) := by decide +kernel
theorem dX1_give_53 : decode cX1_give 53 = .ok (.iload 7, 2) := by decide +kernel
theorem dX1_give_55 : decode cX1_give 55 = .ok (.sipush 20000, 3) := by decide +kernel
theorem dX1_give_58 : decode cX1_give 58 = .ok (.if_icmp .ge 39, 3) := by decide +kernel
theorem dX1_give_61 : decode cX1_give 61 = .ok (.aload 4, 2) := by decide +kernel
theorem dX1_give_63 : decode cX1_give 63 = .ok (.iload 5, 2) := by decide +kernel
theorem dX1_give_65 : decode cX1_give 65 = .ok (.iload 7, 2) := by decide +kernel
theorem dX1_give_67 : decode cX1_give 67 = .ok (.sipush 10000, 3) := by decide +kernel
theorem dX1_give_70 : decode cX1_give 70 = .ok (.if_icmp .ne 7, 3) := by decide +kernel
theorem dX1_give_73 : decode cX1_give 73 = .ok (.iload_n 1, 1) := by decide +kernel
theorem dX1_give_74 : decode cX1_give 74 = .ok (.goto 16, 3) := by decide +kernel
theorem dX1_give_77 : decode cX1_give 77 = .ok (.iload 7, 2) := by decide +kernel
theorem dX1_give_79 : decode cX1_give 79 = .ok (.sipush 10001, 3) := by decide +kernel
theorem dX1_give_82 : decode cX1_give 82 = .ok (.if_icmp .ne 7, 3) := by decide +kernel
theorem dX1_give_85 : decode cX1_give 85 = .ok (.iload_n 2, 1) := by decide +kernel
theorem dX1_give_86 : decode cX1_give 86 = .ok (.goto 4, 3) := by decide +kernel
theorem dX1_give_89 : decode cX1_give 89 = .ok (.iload_n 3, 1) := by decide +kernel
theorem dX1_give_90 : decode cX1_give 90 = .ok (.iastore, 1) := by decide +kernel
theorem dX1_give_91 : decode cX1_give 91 = .ok (.iinc 5 1, 3) := by decide +kernel
theorem dX1_give_94 : decode cX1_give 94 = .ok (.goto 78, 3) := by decide +kernel
theorem dX1_give_97 : decode cX1_give 97 = .ok (.iload 7, 2) := by decide +kernel
theorem dX1_give_99 : decode cX1_give 99 = .ok (.sipush 20033, 3) := by decide +kernel
theorem dX1_give_102 : decode cX1_give 102 = .ok (.if_icmp .ne 33, 3) := by decide +kernel
theorem dX1_give_105 : decode cX1_give 105 = .ok (.iload 5, 2) := by decide +kernel
theorem dX1_give_107 : decode cX1_give 107 = .ok (.ifCond .le 65, 3) := by decide +kernel
theorem dX1_give_110 : decode cX1_give 110 = .ok (.aload 4, 2) := by decide +kernel
theorem dX1_give_112 : decode cX1_give 112 = .ok (.iload 5, 2) := by decide +kernel
theorem dX1_give_114 : decode cX1_give 114 = .ok (.iconst 1, 1) := by decide +kernel
theorem dX1_give_115 : decode cX1_give 115 = .ok (.isub, 1) := by decide +kernel
theorem dX1_give_116 : decode cX1_give 116 = .ok (.aload 4, 2) := by decide +kernel
theorem dX1_give_118 : decode cX1_give 118 = .ok (.iload 5, 2) := by decide +kernel
theorem dX1_give_120 : decode cX1_give 120 = .ok (.iconst 1, 1) := by decide +kernel
theorem dX1_give_121 : decode cX1_give 121 = .ok (.isub, 1) := by decide +kernel
theorem dX1_give_122 : decode cX1_give 122 = .ok (.iaload, 1) := by decide +kernel
theorem dX1_give_123 : decode cX1_give 123 = .ok (.ifCond .ne 7, 3) := by decide +kernel
theorem dX1_give_126 : decode cX1_give 126 = .ok (.iconst 1, 1) := by decide +kernel
theorem dX1_give_127 : decode cX1_give 127 = .ok (.goto 4, 3) := by decide +kernel
theorem dX1_give_130 : decode cX1_give 130 = .ok (.iconst 0, 1) := by decide +kernel
theorem dX1_give_131 : decode cX1_give 131 = .ok (.iastore, 1) := by decide +kernel
theorem dX1_give_132 : decode cX1_give 132 = .ok (.goto 40, 3) := by decide +kernel
theorem dX1_give_135 : decode cX1_give 135 = .ok (.iload 5, 2) := by decide +kernel
theorem dX1_give_137 : decode cX1_give 137 = .ok (.iconst 1, 1) := by decide +kernel
theorem dX1_give_138 : decode cX1_give 138 = .ok (.if_icmp .le 34, 3) := by decide +kernel
theorem dX1_give_141 : decode cX1_give 141 = .ok (.iinc 5 (-1), 3) := by decide +kernel
theorem dX1_give_144 : decode cX1_give 144 = .ok (.aload 4, 2) := by decide +kernel
theorem dX1_give_146 : decode cX1_give 146 = .ok (.iload 5, 2) := by decide +kernel
theorem dX1_give_148 : decode cX1_give 148 = .ok (.iconst 1, 1) := by decide +kernel
theorem dX1_give_149 : decode cX1_give 149 = .ok (.isub, 1) := by decide +kernel
theorem dX1_give_150 : decode cX1_give 150 = .ok (.iload 7, 2) := by decide +kernel
theorem dX1_give_152 : decode cX1_give 152 = .ok (.sipush 20000, 3) := by decide +kernel
theorem dX1_give_155 : decode cX1_give 155 = .ok (.isub, 1) := by decide +kernel
theorem dX1_give_156 : decode cX1_give 156 = .ok (.aload 4, 2) := by decide +kernel
theorem dX1_give_158 : decode cX1_give 158 = .ok (.iload 5, 2) := by decide +kernel
theorem dX1_give_160 : decode cX1_give 160 = .ok (.iconst 1, 1) := by decide +kernel
theorem dX1_give_161 : decode cX1_give 161 = .ok (.isub, 1) := by decide +kernel
theorem dX1_give_162 : decode cX1_give 162 = .ok (.iaload, 1) := by decide +kernel
theorem dX1_give_163 : decode cX1_give 163 = .ok (.aload 4, 2) := by decide +kernel
theorem dX1_give_165 : decode cX1_give 165 = .ok (.iload 5, 2) := by decide +kernel
theorem dX1_give_167 : decode cX1_give 167 = .ok (.iaload, 1) := by decide +kernel
theorem dX1_give_168 : decode cX1_give 168 = .ok (.invokestatic 35, 3) := by decide +kernel
theorem dX1_give_171 : decode cX1_give 171 = .ok (.iastore, 1) := by decide +kernel
theorem dX1_give_172 : decode cX1_give 172 = .ok (.iinc 6 1, 3) := by decide +kernel
theorem dX1_give_175 : decode cX1_give 175 = .ok (.goto (-169), 3) := by decide +kernel
theorem dX1_give_178 : decode cX1_give 178 = .ok (.iload 5, 2) := by decide +kernel
theorem dX1_give_180 : decode cX1_give 180 = .ok (.ifCond .le 10, 3) := by decide +kernel
theorem dX1_give_183 : decode cX1_give 183 = .ok (.aload 4, 2) := by decide +kernel
theorem dX1_give_185 : decode cX1_give 185 = .ok (.iconst 0, 1) := by decide +kernel
theorem dX1_give_186 : decode cX1_give 186 = .ok (.iaload, 1) := by decide +kernel
theorem dX1_give_187 : decode cX1_give 187 = .ok (.goto 4, 3) := by decide +kernel
theorem dX1_give_190 : decode cX1_give 190 = .ok (.iconst 0, 1) := by decide +kernel
theorem dX1_give_191 : decode cX1_give 191 = .ok (.ireturn, 1) := by decide +kernel
theorem dX1_joined_0 : decode cX1_joined 0 = .ok (.iload_n 0, 1) := by decide +kernel
theorem dX1_joined_1 : decode cX1_joined 1 = .ok (.lookupswitch 148 #[(38, 89), (42, 144), (43, 136), (45, 140), (60, 103), (61, 114), (62, 125), (124, 75)], 75) := by decide +kernel
theorem dX1_joined_76 : decode cX1_joined 76 = .ok (.iload_n 1, 1) := by decide +kernel
theorem dX1_joined_77 : decode cX1_joined 77 = .ok (.ifCond .ne 7, 3) := by decide +kernel
theorem dX1_joined_80 : decode cX1_joined 80 = .ok (.iload_n 2, 1) := by decide +kernel
theorem dX1_joined_81 : decode cX1_joined 81 = .ok (.ifCond .eq 7, 3) := by decide +kernel
theorem dX1_joined_84 : decode cX1_joined 84 = .ok (.iconst 1, 1) := by decide +kernel
theorem dX1_joined_85 : decode cX1_joined 85 = .ok (.goto 4, 3) := by decide +kernel
theorem dX1_joined_88 : decode cX1_joined 88 = .ok (.iconst 0, 1) := by decide +kernel
theorem dX1_joined_89 : decode cX1_joined 89 = .ok (.ireturn, 1) := by decide +kernel
theorem dX1_joined_90 : decode cX1_joined 90 = .ok (.iload_n 1, 1) := by decide +kernel
theorem dX1_joined_91 : decode cX1_joined 91 = .ok (.ifCond .eq 11, 3) := by decide +kernel
theorem dX1_joined_94 : decode cX1_joined 94 = .ok (.iload_n 2, 1) := by decide +kernel
theorem dX1_joined_95 : decode cX1_joined 95 = .ok (.ifCond .eq 7, 3) := by decide +kernel
theorem dX1_joined_98 : decode cX1_joined 98 = .ok (.iconst 1, 1) := by decide +kernel
theorem dX1_joined_99 : decode cX1_joined 99 = .ok (.goto 4, 3) := by decide +kernel
theorem dX1_joined_102 : decode cX1_joined 102 = .ok (.iconst 0, 1) := by decide +kernel
theorem dX1_joined_103 : decode cX1_joined 103 = .ok (.ireturn, 1) := by decide +kernel
theorem dX1_joined_104 : decode cX1_joined 104 = .ok (.iload_n 1, 1) := by decide +kernel
theorem dX1_joined_105 : decode cX1_joined 105 = .ok (.iload_n 2, 1) := by decide +kernel
theorem dX1_joined_106 : decode cX1_joined 106 = .ok (.if_icmp .ge 7, 3) := by decide +kernel
theorem dX1_joined_109 : decode cX1_joined 109 = .ok (.iconst 1, 1) := by decide +kernel
theorem dX1_joined_110 : decode cX1_joined 110 = .ok (.goto 4, 3) := by decide +kernel
theorem dX1_joined_113 : decode cX1_joined 113 = .ok (.iconst 0, 1) := by decide +kernel
theorem dX1_joined_114 : decode cX1_joined 114 = .ok (.ireturn, 1) := by decide +kernel
theorem dX1_joined_115 : decode cX1_joined 115 = .ok (.iload_n 1, 1) := by decide +kernel
theorem dX1_joined_116 : decode cX1_joined 116 = .ok (.iload_n 2, 1) := by decide +kernel
theorem dX1_joined_117 : decode cX1_joined 117 = .ok (.if_icmp .ne 7, 3) := by decide +kernel
theorem dX1_joined_120 : decode cX1_joined 120 = .ok (.iconst 1, 1) := by decide +kernel
theorem dX1_joined_121 : decode cX1_joined 121 = .ok (.goto 4, 3) := by decide +kernel
theorem dX1_joined_124 : decode cX1_joined 124 = .ok (.iconst 0, 1) := by decide +kernel
theorem dX1_joined_125 : decode cX1_joined 125 = .ok (.ireturn, 1) := by decide +kernel
theorem dX1_joined_126 : decode cX1_joined 126 = .ok (.iload_n 1, 1) := by decide +kernel
theorem dX1_joined_127 : decode cX1_joined 127 = .ok (.iload_n 2, 1) := by decide +kernel
theorem dX1_joined_128 : decode cX1_joined 128 = .ok (.if_icmp .le 7, 3) := by decide +kernel
theorem dX1_joined_131 : decode cX1_joined 131 = .ok (.iconst 1, 1) := by decide +kernel
theorem dX1_joined_132 : decode cX1_joined 132 = .ok (.goto 4, 3) := by decide +kernel
theorem dX1_joined_135 : decode cX1_joined 135 = .ok (.iconst 0, 1) := by decide +kernel
theorem dX1_joined_136 : decode cX1_joined 136 = .ok (.ireturn, 1) := by decide +kernel
theorem dX1_joined_137 : decode cX1_joined 137 = .ok (.iload_n 1, 1) := by decide +kernel
theorem dX1_joined_138 : decode cX1_joined 138 = .ok (.iload_n 2, 1) := by decide +kernel
theorem dX1_joined_139 : decode cX1_joined 139 = .ok (.iadd, 1) := by decide +kernel
theorem dX1_joined_140 : decode cX1_joined 140 = .ok (.ireturn, 1) := by decide +kernel
theorem dX1_joined_141 : decode cX1_joined 141 = .ok (.iload_n 1, 1) := by decide +kernel
theorem dX1_joined_142 : decode cX1_joined 142 = .ok (.iload_n 2, 1) := by decide +kernel
theorem dX1_joined_143 : decode cX1_joined 143 = .ok (.isub, 1) := by decide +kernel
theorem dX1_joined_144 : decode cX1_joined 144 = .ok (.ireturn, 1) := by decide +kernel
theorem dX1_joined_145 : decode cX1_joined 145 = .ok (.iload_n 1, 1) := by decide +kernel
theorem dX1_joined_146 : decode cX1_joined 146 = .ok (.iload_n 2, 1) := by decide +kernel
theorem dX1_joined_147 : decode cX1_joined 147 = .ok (.imul, 1) := by decide +kernel
theorem dX1_joined_148 : decode cX1_joined 148 = .ok (.ireturn, 1) := by decide +kernel
theorem dX1_joined_149 : decode cX1_joined 149 = .ok (.iload_n 2, 1) := by decide +kernel
theorem dX1_joined_150 : decode cX1_joined 150 = .ok (.ifCond .ne 7, 3) := by decide +kernel
theorem dX1_joined_153 : decode cX1_joined 153 = .ok (.iconst 0, 1) := by decide +kernel
theorem dX1_joined_154 : decode cX1_joined 154 = .ok (.goto 6, 3) := by decide +kernel
theorem dX1_joined_157 : decode cX1_joined 157 = .ok (.iload_n 1, 1) := by decide +kernel
theorem dX1_joined_158 : decode cX1_joined 158 = .ok (.iload_n 2, 1) := by decide +kernel
theorem dX1_joined_159 : decode cX1_joined 159 = .ok (.idiv, 1) := by decide +kernel
theorem dX1_joined_160 : decode cX1_joined 160 = .ok (.ireturn, 1) := by decide +kernel
theorem dX2_init_0 : decode cX2_init 0 = .ok (.aload_n 0, 1) := by decide +kernel
theorem dX2_init_1 : decode cX2_init 1 = .ok (.invokespecial 3, 3) := by decide +kernel
theorem dX2_init_4 : decode cX2_init 4 = .ok (.aload_n 0, 1) := by decide +kernel
theorem dX2_init_5 : decode cX2_init 5 = .ok (.new 9, 3) := by decide +kernel
theorem dX2_init_8 : decode cX2_init 8 = .ok (.dup, 1) := by decide +kernel
theorem dX2_init_9 : decode cX2_init 9 = .ok (.invokespecial 11, 3) := by decide +kernel
theorem dX2_init_12 : decode cX2_init 12 = .ok (.putfield 12, 3) := by decide +kernel
theorem dX2_init_15 : decode cX2_init 15 = .ok (.aload_n 0, 1) := by decide +kernel
theorem dX2_init_16 : decode cX2_init 16 = .ok (.bipush 96, 2) := by decide +kernel
theorem dX2_init_18 : decode cX2_init 18 = .ok (.newarray .int, 2) := by decide +kernel
theorem dX2_init_20 : decode cX2_init 20 = .ok (.putfield 18, 3) := by decide +kernel
theorem dX2_init_23 : decode cX2_init 23 = .ok (.return_, 1) := by decide +kernel
theorem dX2_takeFour_0 : decode cX2_takeFour 0 = .ok (.bipush 24, 2) := by decide +kernel
theorem dX2_takeFour_2 : decode cX2_takeFour 2 = .ok (.istore_n 2, 1) := by decide +kernel
theorem dX2_takeFour_3 : decode cX2_takeFour 3 = .ok (.iload_n 2, 1) := by decide +kernel
theorem dX2_takeFour_4 : decode cX2_takeFour 4 = .ok (.ifCond .lt 44, 3) := by decide +kernel
theorem dX2_takeFour_7 : decode cX2_takeFour 7 = .ok (.aload_n 0, 1) := by decide +kernel
theorem dX2_takeFour_8 : decode cX2_takeFour 8 = .ok (.getfield 22, 3) := by decide +kernel
theorem dX2_takeFour_11 : decode cX2_takeFour 11 = .ok (.bipush 96, 2) := by decide +kernel
theorem dX2_takeFour_13 : decode cX2_takeFour 13 = .ok (.if_icmp .ge 35, 3) := by decide +kernel
theorem dX2_takeFour_16 : decode cX2_takeFour 16 = .ok (.aload_n 0, 1) := by decide +kernel
theorem dX2_takeFour_17 : decode cX2_takeFour 17 = .ok (.getfield 18, 3) := by decide +kernel
theorem dX2_takeFour_20 : decode cX2_takeFour 20 = .ok (.aload_n 0, 1) := by decide +kernel
theorem dX2_takeFour_21 : decode cX2_takeFour 21 = .ok (.getfield 22, 3) := by decide +kernel
theorem dX2_takeFour_24 : decode cX2_takeFour 24 = .ok (.iload_n 1, 1) := by decide +kernel
theorem dX2_takeFour_25 : decode cX2_takeFour 25 = .ok (.iload_n 2, 1) := by decide +kernel
theorem dX2_takeFour_26 : decode cX2_takeFour 26 = .ok (.iushr, 1) := by decide +kernel
theorem dX2_takeFour_27 : decode cX2_takeFour 27 = .ok (.sipush 255, 3) := by decide +kernel
theorem dX2_takeFour_30 : decode cX2_takeFour 30 = .ok (.iand, 1) := by decide +kernel
theorem dX2_takeFour_31 : decode cX2_takeFour 31 = .ok (.iastore, 1) := by decide +kernel
theorem dX2_takeFour_32 : decode cX2_takeFour 32 = .ok (.aload_n 0, 1) := by decide +kernel
theorem dX2_takeFour_33 : decode cX2_takeFour 33 = .ok (.dup, 1) := by decide +kernel
theorem dX2_takeFour_34 : decode cX2_takeFour 34 = .ok (.getfield 22, 3) := by decide +kernel
theorem dX2_takeFour_37 : decode cX2_takeFour 37 = .ok (.iconst 1, 1) := by decide +kernel
theorem dX2_takeFour_38 : decode cX2_takeFour 38 = .ok (.iadd, 1) := by decide +kernel
theorem dX2_takeFour_39 : decode cX2_takeFour 39 = .ok (.putfield 22, 3) := by decide +kernel
theorem dX2_takeFour_42 : decode cX2_takeFour 42 = .ok (.iinc 2 (-8), 3) := by decide +kernel
theorem dX2_takeFour_45 : decode cX2_takeFour 45 = .ok (.goto (-42), 3) := by decide +kernel
theorem dX2_takeFour_48 : decode cX2_takeFour 48 = .ok (.return_, 1) := by decide +kernel
theorem dX2_read_0 : decode cX2_read 0 = .ok (.aload_n 0, 1) := by decide +kernel
theorem dX2_read_1 : decode cX2_read 1 = .ok (.getfield 12, 3) := by decide +kernel
theorem dX2_read_4 : decode cX2_read 4 = .ok (.invokevirtual 26, 3) := by decide +kernel
theorem dX2_read_7 : decode cX2_read 7 = .ok (.aload_n 0, 1) := by decide +kernel
theorem dX2_read_8 : decode cX2_read 8 = .ok (.iconst (-1), 1) := by decide +kernel
theorem dX2_read_9 : decode cX2_read 9 = .ok (.putfield 29, 3) := by decide +kernel
theorem dX2_read_12 : decode cX2_read 12 = .ok (.aload_n 0, 1) := by decide +kernel
theorem dX2_read_13 : decode cX2_read 13 = .ok (.iconst 0, 1) := by decide +kernel
theorem dX2_read_14 : decode cX2_read 14 = .ok (.putfield 32, 3) := by decide +kernel
theorem dX2_read_17 : decode cX2_read 17 = .ok (.aload_n 0, 1) := by decide +kernel
theorem dX2_read_18 : decode cX2_read 18 = .ok (.invokevirtual 35, 3) := by decide +kernel
theorem dX2_read_21 : decode cX2_read 21 = .ok (.aload_n 0, 1) := by decide +kernel
theorem dX2_read_22 : decode cX2_read 22 = .ok (.invokevirtual 38, 3) := by decide +kernel
theorem dX2_read_25 : decode cX2_read 25 = .ok (.aload_n 0, 1) := by decide +kernel
theorem dX2_read_26 : decode cX2_read 26 = .ok (.iconst 0, 1) := by decide +kernel
theorem dX2_read_27 : decode cX2_read 27 = .ok (.iconst 0, 1) := by decide +kernel
theorem dX2_read_28 : decode cX2_read 28 = .ok (.iconst 0, 1) := by decide +kernel
theorem dX2_read_29 : decode cX2_read 29 = .ok (.invokevirtual 41, 3) := by decide +kernel
theorem dX2_read_32 : decode cX2_read 32 = .ok (.aload_n 0, 1) := by decide +kernel
theorem dX2_read_33 : decode cX2_read 33 = .ok (.getfield 29, 3) := by decide +kernel
theorem dX2_read_36 : decode cX2_read 36 = .ok (.ifCond .ge 22, 3) := by decide +kernel
theorem dX2_read_39 : decode cX2_read 39 = .ok (.aload_n 0, 1) := by decide +kernel
theorem dX2_read_40 : decode cX2_read 40 = .ok (.getfield 45, 3) := by decide +kernel
theorem dX2_read_43 : decode cX2_read 43 = .ok (.aload_n 0, 1) := by decide +kernel
theorem dX2_read_44 : decode cX2_read 44 = .ok (.getfield 22, 3) := by decide +kernel
theorem dX2_read_47 : decode cX2_read 47 = .ok (.if_icmp .ge 11, 3) := by decide +kernel
theorem dX2_read_50 : decode cX2_read 50 = .ok (.aload_n 0, 1) := by decide +kernel
theorem dX2_read_51 : decode cX2_read 51 = .ok (.aload_n 0, 1) := by decide +kernel
theorem dX2_read_52 : decode cX2_read 52 = .ok (.getfield 45, 3) := by decide +kernel
theorem dX2_read_55 : decode cX2_read 55 = .ok (.putfield 29, 3) := by decide +kernel
theorem dX2_read_58 : decode cX2_read 58 = .ok (.aload_n 0, 1) := by decide +kernel
theorem dX2_read_59 : decode cX2_read 59 = .ok (.getfield 29, 3) := by decide +kernel
theorem dX2_read_62 : decode cX2_read 62 = .ok (.ireturn, 1) := by decide +kernel
theorem dX2_readKey_0 : decode cX2_readKey 0 = .ok (.aload_n 0, 1) := by decide +kernel
theorem dX2_readKey_1 : decode cX2_readKey 1 = .ok (.ldc 48, 2) := by decide +kernel
theorem dX2_readKey_3 : decode cX2_readKey 3 = .ok (.invokevirtual 50, 3) := by decide +kernel
theorem dX2_readKey_6 : decode cX2_readKey 6 = .ok (.ifCond .eq 14, 3) := by decide +kernel
theorem dX2_readKey_9 : decode cX2_readKey 9 = .ok (.aload_n 0, 1) := by decide +kernel
theorem dX2_readKey_10 : decode cX2_readKey 10 = .ok (.getfield 12, 3) := by decide +kernel
theorem dX2_readKey_13 : decode cX2_readKey 13 = .ok (.iconst 0, 1) := by decide +kernel
theorem dX2_readKey_14 : decode cX2_readKey 14 = .ok (.putfield 54, 3) := by decide +kernel
theorem dX2_readKey_17 : decode cX2_readKey 17 = .ok (.goto 52, 3) := by decide +kernel
theorem dX2_readKey_20 : decode cX2_readKey 20 = .ok (.aload_n 0, 1) := by decide +kernel
theorem dX2_readKey_21 : decode cX2_readKey 21 = .ok (.ldc 57, 2) := by decide +kernel
theorem dX2_readKey_23 : decode cX2_readKey 23 = .ok (.invokevirtual 50, 3) := by decide +kernel
theorem dX2_readKey_26 : decode cX2_readKey 26 = .ok (.ifCond .eq 14, 3) := by decide +kernel
theorem dX2_readKey_29 : decode cX2_readKey 29 = .ok (.aload_n 0, 1) := by decide +kernel
theorem dX2_readKey_30 : decode cX2_readKey 30 = .ok (.getfield 12, 3) := by decide +kernel
theorem dX2_readKey_33 : decode cX2_readKey 33 = .ok (.iconst 1, 1) := by decide +kernel
theorem dX2_readKey_34 : decode cX2_readKey 34 = .ok (.putfield 54, 3) := by decide +kernel
theorem dX2_readKey_37 : decode cX2_readKey 37 = .ok (.goto 32, 3) := by decide +kernel
theorem dX2_readKey_40 : decode cX2_readKey 40 = .ok (.aload_n 0, 1) := by decide +kernel
theorem dX2_readKey_41 : decode cX2_readKey 41 = .ok (.ldc 59, 2) := by decide +kernel
theorem dX2_readKey_43 : decode cX2_readKey 43 = .ok (.invokevirtual 50, 3) := by decide +kernel
theorem dX2_readKey_46 : decode cX2_readKey 46 = .ok (.ifCond .eq 14, 3) := by decide +kernel
theorem dX2_readKey_49 : decode cX2_readKey 49 = .ok (.aload_n 0, 1) := by decide +kernel
theorem dX2_readKey_50 : decode cX2_readKey 50 = .ok (.getfield 12, 3) := by decide +kernel
theorem dX2_readKey_53 : decode cX2_readKey 53 = .ok (.iconst 2, 1) := by decide +kernel
theorem dX2_readKey_54 : decode cX2_readKey 54 = .ok (.putfield 54, 3) := by decide +kernel
theorem dX2_readKey_57 : decode cX2_readKey 57 = .ok (.goto 12, 3) := by decide +kernel
theorem dX2_readKey_60 : decode cX2_readKey 60 = .ok (.aload_n 0, 1) := by decide +kernel
theorem dX2_readKey_61 : decode cX2_readKey 61 = .ok (.aload_n 0, 1) := by decide +kernel
theorem dX2_readKey_62 : decode cX2_readKey 62 = .ok (.getfield 45, 3) := by decide +kernel
theorem dX2_readKey_65 : decode cX2_readKey 65 = .ok (.putfield 29, 3) := by decide +kernel
theorem dX2_readKey_68 : decode cX2_readKey 68 = .ok (.return_, 1) := by decide +kernel
theorem dX2_readKey_69 : decode cX2_readKey 69 = .ok (.aload_n 0, 1) := by decide +kernel
theorem dX2_readKey_70 : decode cX2_readKey 70 = .ok (.invokevirtual 35, 3) := by decide +kernel
theorem dX2_readKey_73 : decode cX2_readKey 73 = .ok (.return_, 1) := by decide +kernel
theorem dX2_readPart_0 : decode cX2_readPart 0 = .ok (.iload_n 1, 1) := by decide +kernel
theorem dX2_readPart_1 : decode cX2_readPart 1 = .ok (.iconst 5, 1) := by decide +kernel
theorem dX2_readPart_2 : decode cX2_readPart 2 = .ok (.if_icmp .lt 10, 3) := by decide +kernel
theorem dX2_readPart_5 : decode cX2_readPart 5 = .ok (.aload_n 0, 1) := by decide +kernel
theorem dX2_readPart_6 : decode cX2_readPart 6 = .ok (.iload_n 2, 1) := by decide +kernel
theorem dX2_readPart_7 : decode cX2_readPart 7 = .ok (.iload_n 3, 1) := by decide +kernel
theorem dX2_readPart_8 : decode cX2_readPart 8 = .ok (.invokevirtual 61, 3) := by decide +kernel
theorem dX2_readPart_11 : decode cX2_readPart 11 = .ok (.return_, 1) := by decide +kernel
theorem dX2_readPart_12 : decode cX2_readPart 12 = .ok (.aload_n 0, 1) := by decide +kernel
theorem dX2_readPart_13 : decode cX2_readPart 13 = .ok (.iload_n 1, 1) := by decide +kernel
theorem dX2_readPart_14 : decode cX2_readPart 14 = .ok (.iconst 1, 1) := by decide +kernel
theorem dX2_readPart_15 : decode cX2_readPart 15 = .ok (.iadd, 1) := by decide +kernel
theorem dX2_readPart_16 : decode cX2_readPart 16 = .ok (.iload_n 2, 1) := by decide +kernel
theorem dX2_readPart_17 : decode cX2_readPart 17 = .ok (.iload_n 3, 1) := by decide +kernel
theorem dX2_readPart_18 : decode cX2_readPart 18 = .ok (.invokevirtual 41, 3) := by decide +kernel
theorem dX2_readPart_21 : decode cX2_readPart 21 = .ok (.iconst 0, 1) := by decide +kernel
theorem dX2_readPart_22 : decode cX2_readPart 22 = .ok (.istore 4, 2) := by decide +kernel
theorem dX2_readPart_24 : decode cX2_readPart 24 = .ok (.iload 4, 2) := by decide +kernel
theorem dX2_readPart_26 : decode cX2_readPart 26 = .ok (.bipush 96, 2) := by decide +kernel
theorem dX2_readPart_28 : decode cX2_readPart 28 = .ok (.if_icmp .ge 61, 3) := by decide +kernel
theorem dX2_readPart_31 : decode cX2_readPart 31 = .ok (.aload_n 0, 1) := by decide +kernel
theorem dX2_readPart_32 : decode cX2_readPart 32 = .ok (.getfield 29, 3) := by decide +kernel
theorem dX2_readPart_35 : decode cX2_readPart 35 = .ok (.ifCond .ge 54, 3) := by decide +kernel
theorem dX2_readPart_38 : decode cX2_readPart 38 = .ok (.aload_n 0, 1) := by decide +kernel
theorem dX2_readPart_39 : decode cX2_readPart 39 = .ok (.invokevirtual 65, 3) := by decide +kernel
theorem dX2_readPart_42 : decode cX2_readPart 42 = .ok (.invokestatic 69, 3) := by decide +kernel
theorem dX2_readPart_45 : decode cX2_readPart 45 = .ok (.iload_n 1, 1) := by decide +kernel
theorem dX2_readPart_46 : decode cX2_readPart 46 = .ok (.if_icmp .ne 43, 3) := by decide +kernel
theorem dX2_readPart_49 : decode cX2_readPart 49 = .ok (.aload_n 0, 1) := by decide +kernel
theorem dX2_readPart_50 : decode cX2_readPart 50 = .ok (.invokevirtual 65, 3) := by decide +kernel
theorem dX2_readPart_53 : decode cX2_readPart 53 = .ok (.istore 5, 2) := by decide +kernel
theorem dX2_readPart_55 : decode cX2_readPart 55 = .ok (.aload_n 0, 1) := by decide +kernel
theorem dX2_readPart_56 : decode cX2_readPart 56 = .ok (.invokevirtual 35, 3) := by decide +kernel
theorem dX2_readPart_59 : decode cX2_readPart 59 = .ok (.aload_n 0, 1) := by decide +kernel
theorem dX2_readPart_60 : decode cX2_readPart 60 = .ok (.iload_n 1, 1) := by decide +kernel
theorem dX2_readPart_61 : decode cX2_readPart 61 = .ok (.iconst 1, 1) := by decide +kernel
theorem dX2_readPart_62 : decode cX2_readPart 62 = .ok (.iadd, 1) := by decide +kernel
theorem dX2_readPart_63 : decode cX2_readPart 63 = .ok (.iload_n 2, 1) := by decide +kernel
theorem dX2_readPart_64 : decode cX2_readPart 64 = .ok (.iload_n 3, 1) := by decide +kernel
theorem dX2_readPart_65 : decode cX2_readPart 65 = .ok (.invokevirtual 41, 3) := by decide +kernel
theorem dX2_readPart_68 : decode cX2_readPart 68 = .ok (.aload_n 0, 1) := by decide +kernel
theorem dX2_readPart_69 : decode cX2_readPart 69 = .ok (.getfield 12, 3) := by decide +kernel
theorem dX2_readPart_72 : decode cX2_readPart 72 = .ok (.iload 5, 2) := by decide +kernel
theorem dX2_readPart_74 : decode cX2_readPart 74 = .ok (.invokevirtual 73, 3) := by decide +kernel
theorem dX2_readPart_77 : decode cX2_readPart 77 = .ok (.iload_n 1, 1) := by decide +kernel
theorem dX2_readPart_78 : decode cX2_readPart 78 = .ok (.iconst 2, 1) := by decide +kernel
theorem dX2_readPart_79 : decode cX2_readPart 79 = .ok (.if_icmp .ne 4, 3) := by decide +kernel
theorem dX2_readPart_82 : decode cX2_readPart 82 = .ok (.return_, 1) := by decide +kernel
theorem dX2_readPart_83 : decode cX2_readPart 83 = .ok (.iinc 4 1, 3) := by decide +kernel
theorem dX2_readPart_86 : decode cX2_readPart 86 = .ok (.goto (-62), 3) := by decide +kernel
theorem dX2_readPart_89 : decode cX2_readPart 89 = .ok (.return_, 1) := by decide +kernel
theorem dX2_readPiece_0 : decode cX2_readPiece 0 = .ok (.aload_n 0, 1) := by decide +kernel
theorem dX2_readPiece_1 : decode cX2_readPiece 1 = .ok (.invokevirtual 65, 3) := by decide +kernel
theorem dX2_readPiece_4 : decode cX2_readPiece 4 = .ok (.istore_n 3, 1) := by decide +kernel
theorem dX2_readPiece_5 : decode cX2_readPiece 5 = .ok (.aload_n 0, 1) := by decide +kernel
theorem dX2_readPiece_6 : decode cX2_readPiece 6 = .ok (.getfield 29, 3) := by decide +kernel
theorem dX2_readPiece_9 : decode cX2_readPiece 9 = .ok (.ifCond .lt 4, 3) := by decide +kernel
theorem dX2_readPiece_12 : decode cX2_readPiece 12 = .ok (.return_, 1) := by decide +kernel
theorem dX2_readPiece_13 : decode cX2_readPiece 13 = .ok (.iload_n 3, 1) := by decide +kernel
theorem dX2_readPiece_14 : decode cX2_readPiece 14 = .ok (.invokestatic 77, 3) := by decide +kernel
theorem dX2_readPiece_17 : decode cX2_readPiece 17 = .ok (.iconst 2, 1) := by decide +kernel
theorem dX2_readPiece_18 : decode cX2_readPiece 18 = .ok (.if_icmp .ne 10, 3) := by decide +kernel
theorem dX2_readPiece_21 : decode cX2_readPiece 21 = .ok (.aload_n 0, 1) := by decide +kernel
theorem dX2_readPiece_22 : decode cX2_readPiece 22 = .ok (.invokevirtual 80, 3) := by decide +kernel
theorem dX2_readPiece_25 : decode cX2_readPiece 25 = .ok (.goto 94, 3) := by decide +kernel
theorem dX2_readPiece_28 : decode cX2_readPiece 28 = .ok (.iload_n 3, 1) := by decide +kernel
theorem dX2_readPiece_29 : decode cX2_readPiece 29 = .ok (.invokestatic 77, 3) := by decide +kernel
theorem dX2_readPiece_32 : decode cX2_readPiece 32 = .ok (.iconst 1, 1) := by decide +kernel
theorem dX2_readPiece_33 : decode cX2_readPiece 33 = .ok (.if_icmp .ne 10, 3) := by decide +kernel
theorem dX2_readPiece_36 : decode cX2_readPiece 36 = .ok (.aload_n 0, 1) := by decide +kernel
theorem dX2_readPiece_37 : decode cX2_readPiece 37 = .ok (.invokevirtual 83, 3) := by decide +kernel
theorem dX2_readPiece_40 : decode cX2_readPiece 40 = .ok (.goto 79, 3) := by decide +kernel
theorem dX2_readPiece_43 : decode cX2_readPiece 43 = .ok (.iload_n 3, 1) := by decide +kernel
theorem dX2_readPiece_44 : decode cX2_readPiece 44 = .ok (.bipush 33, 2) := by decide +kernel
theorem dX2_readPiece_46 : decode cX2_readPiece 46 = .ok (.if_icmp .ne 33, 3) := by decide +kernel
theorem dX2_readPiece_49 : decode cX2_readPiece 49 = .ok (.iload_n 2, 1) := by decide +kernel
theorem dX2_readPiece_50 : decode cX2_readPiece 50 = .ok (.bipush 8, 2) := by decide +kernel
theorem dX2_readPiece_52 : decode cX2_readPiece 52 = .ok (.if_icmp .ge 27, 3) := by decide +kernel
theorem dX2_readPiece_55 : decode cX2_readPiece 55 = .ok (.aload_n 0, 1) := by decide +kernel
theorem dX2_readPiece_56 : decode cX2_readPiece 56 = .ok (.invokevirtual 35, 3) := by decide +kernel
theorem dX2_readPiece_59 : decode cX2_readPiece 59 = .ok (.aload_n 0, 1) := by decide +kernel
theorem dX2_readPiece_60 : decode cX2_readPiece 60 = .ok (.iload_n 1, 1) := by decide +kernel
theorem dX2_readPiece_61 : decode cX2_readPiece 61 = .ok (.iload_n 2, 1) := by decide +kernel
theorem dX2_readPiece_62 : decode cX2_readPiece 62 = .ok (.iconst 1, 1) := by decide +kernel
theorem dX2_readPiece_63 : decode cX2_readPiece 63 = .ok (.iadd, 1) := by decide +kernel
theorem dX2_readPiece_64 : decode cX2_readPiece 64 = .ok (.invokevirtual 61, 3) := by decide +kernel
theorem dX2_readPiece_67 : decode cX2_readPiece 67 = .ok (.aload_n 0, 1) := by decide +kernel
theorem dX2_readPiece_68 : decode cX2_readPiece 68 = .ok (.getfield 12, 3) := by decide +kernel
theorem dX2_readPiece_71 : decode cX2_readPiece 71 = .ok (.bipush 33, 2) := by decide +kernel
theorem dX2_readPiece_73 : decode cX2_readPiece 73 = .ok (.invokevirtual 73, 3) := by decide +kernel
theorem dX2_readPiece_76 : decode cX2_readPiece 76 = .ok (.goto 43, 3) := by decide +kernel
theorem dX2_readPiece_79 : decode cX2_readPiece 79 = .ok (.iload_n 3, 1) := by decide +kernel
theorem dX2_readPiece_80 : decode cX2_readPiece 80 = .ok (.bipush 40, 2) := by decide +kernel
theorem dX2_readPiece_82 : decode cX2_readPiece 82 = .ok (.if_icmp .ne 29, 3) := by decide +kernel
theorem dX2_readPiece_85 : decode cX2_readPiece 85 = .ok (.iload_n 1, 1) := by decide +kernel
theorem dX2_readPiece_86 : decode cX2_readPiece 86 = .ok (.bipush 8, 2) := by decide +kernel
theorem dX2_readPiece_88 : decode cX2_readPiece 88 = .ok (.if_icmp .ge 23, 3) := by decide +kernel
theorem dX2_readPiece_91 : decode cX2_readPiece 91 = .ok (.aload_n 0, 1) := by decide +kernel
theorem dX2_readPiece_92 : decode cX2_readPiece 92 = .ok (.invokevirtual 35, 3) := by decide +kernel
theorem dX2_readPiece_95 : decode cX2_readPiece 95 = .ok (.aload_n 0, 1) := by decide +kernel
theorem dX2_readPiece_96 : decode cX2_readPiece 96 = .ok (.iconst 0, 1) := by decide +kernel
theorem dX2_readPiece_97 : decode cX2_readPiece 97 = .ok (.iload_n 1, 1) := by decide +kernel
theorem dX2_readPiece_98 : decode cX2_readPiece 98 = .ok (.iconst 1, 1) := by decide +kernel
theorem dX2_readPiece_99 : decode cX2_readPiece 99 = .ok (.iadd, 1) := by decide +kernel
theorem dX2_readPiece_100 : decode cX2_readPiece 100 = .ok (.iload_n 2, 1) := by decide +kernel
theorem dX2_readPiece_101 : decode cX2_readPiece 101 = .ok (.invokevirtual 41, 3) := by decide +kernel
theorem dX2_readPiece_104 : decode cX2_readPiece 104 = .ok (.aload_n 0, 1) := by decide +kernel
theorem dX2_readPiece_105 : decode cX2_readPiece 105 = .ok (.invokevirtual 86, 3) := by decide +kernel
theorem dX2_readPiece_108 : decode cX2_readPiece 108 = .ok (.goto 11, 3) := by decide +kernel
theorem dX2_readPiece_111 : decode cX2_readPiece 111 = .ok (.aload_n 0, 1) := by decide +kernel
theorem dX2_readPiece_112 : decode cX2_readPiece 112 = .ok (.aload_n 0, 1) := by decide +kernel
theorem dX2_readPiece_113 : decode cX2_readPiece 113 = .ok (.getfield 45, 3) := by decide +kernel
theorem dX2_readPiece_116 : decode cX2_readPiece 116 = .ok (.putfield 29, 3) := by decide +kernel
theorem dX2_readPiece_119 : decode cX2_readPiece 119 = .ok (.return_, 1) := by decide +kernel
theorem dX2_readNumber_0 : decode cX2_readNumber 0 = .ok (.aload_n 0, 1) := by decide +kernel
theorem dX2_readNumber_1 : decode cX2_readNumber 1 = .ok (.getfield 89, 3) := by decide +kernel
theorem dX2_readNumber_4 : decode cX2_readNumber 4 = .ok (.ifCond .ne 16, 3) := by decide +kernel
theorem dX2_readNumber_7 : decode cX2_readNumber 7 = .ok (.aload_n 0, 1) := by decide +kernel
theorem dX2_readNumber_8 : decode cX2_readNumber 8 = .ok (.getfield 32, 3) := by decide +kernel
theorem dX2_readNumber_11 : decode cX2_readNumber 11 = .ok (.aload_n 0, 1) := by decide +kernel
theorem dX2_readNumber_12 : decode cX2_readNumber 12 = .ok (.getfield 45, 3) := by decide +kernel
theorem dX2_readNumber_15 : decode cX2_readNumber 15 = .ok (.isub, 1) := by decide +kernel
theorem dX2_readNumber_16 : decode cX2_readNumber 16 = .ok (.iconst 4, 1) := by decide +kernel
theorem dX2_readNumber_17 : decode cX2_readNumber 17 = .ok (.if_icmp .le 12, 3) := by decide +kernel
theorem dX2_readNumber_20 : decode cX2_readNumber 20 = .ok (.aload_n 0, 1) := by decide +kernel
theorem dX2_readNumber_21 : decode cX2_readNumber 21 = .ok (.aload_n 0, 1) := by decide +kernel
theorem dX2_readNumber_22 : decode cX2_readNumber 22 = .ok (.getfield 45, 3) := by decide +kernel
theorem dX2_readNumber_25 : decode cX2_readNumber 25 = .ok (.putfield 29, 3) := by decide +kernel
theorem dX2_readNumber_28 : decode cX2_readNumber 28 = .ok (.return_, 1) := by decide +kernel
theorem dX2_readNumber_29 : decode cX2_readNumber 29 = .ok (.iconst 0, 1) := by decide +kernel
theorem dX2_readNumber_30 : decode cX2_readNumber 30 = .ok (.istore_n 1, 1) := by decide +kernel
theorem dX2_readNumber_31 : decode cX2_readNumber 31 = .ok (.aload_n 0, 1) := by decide +kernel
theorem dX2_readNumber_32 : decode cX2_readNumber 32 = .ok (.getfield 45, 3) := by decide +kernel
theorem dX2_readNumber_35 : decode cX2_readNumber 35 = .ok (.istore_n 2, 1) := by decide +kernel
theorem dX2_readNumber_36 : decode cX2_readNumber 36 = .ok (.iload_n 2, 1) := by decide +kernel
theorem dX2_readNumber_37 : decode cX2_readNumber 37 = .ok (.aload_n 0, 1) := by decide +kernel
theorem dX2_readNumber_38 : decode cX2_readNumber 38 = .ok (.getfield 32, 3) := by decide +kernel
theorem dX2_readNumber_41 : decode cX2_readNumber 41 = .ok (.if_icmp .ge 24, 3) := by decide +kernel
theorem dX2_readNumber_44 : decode cX2_readNumber 44 = .ok (.iload_n 1, 1) := by decide +kernel
theorem dX2_readNumber_45 : decode cX2_readNumber 45 = .ok (.bipush 10, 2) := by decide +kernel
theorem dX2_readNumber_47 : decode cX2_readNumber 47 = .ok (.imul, 1) := by decide +kernel
theorem dX2_readNumber_48 : decode cX2_readNumber 48 = .ok (.aload_n 0, 1) := by decide +kernel
theorem dX2_readNumber_49 : decode cX2_readNumber 49 = .ok (.getfield 18, 3) := by decide +kernel
theorem dX2_readNumber_52 : decode cX2_readNumber 52 = .ok (.iload_n 2, 1) := by decide +kernel
theorem dX2_readNumber_53 : decode cX2_readNumber 53 = .ok (.iaload, 1) := by decide +kernel
theorem dX2_readNumber_54 : decode cX2_readNumber 54 = .ok (.iadd, 1) := by decide +kernel
theorem dX2_readNumber_55 : decode cX2_readNumber 55 = .ok (.bipush 48, 2) := by decide +kernel
theorem dX2_readNumber_57 : decode cX2_readNumber 57 = .ok (.isub, 1) := by decide +kernel
theorem dX2_readNumber_58 : decode cX2_readNumber 58 = .ok (.istore_n 1, 1) := by decide +kernel
theorem dX2_readNumber_59 : decode cX2_readNumber 59 = .ok (.iinc 2 1, 3) := by decide +kernel
theorem dX2_readNumber_62 : decode cX2_readNumber 62 = .ok (.goto (-26), 3) := by decide +kernel
theorem dX2_readNumber_65 : decode cX2_readNumber 65 = .ok (.aload_n 0, 1) := by decide +kernel
theorem dX2_readNumber_66 : decode cX2_readNumber 66 = .ok (.getfield 12, 3) := by decide +kernel
theorem dX2_readNumber_69 : decode cX2_readNumber 69 = .ok (.iload_n 1, 1) := by decide +kernel
theorem dX2_readNumber_70 : decode cX2_readNumber 70 = .ok (.invokevirtual 93, 3) := by decide +kernel
theorem dX2_readNumber_73 : decode cX2_readNumber 73 = .ok (.aload_n 0, 1) := by decide +kernel
theorem dX2_readNumber_74 : decode cX2_readNumber 74 = .ok (.invokevirtual 35, 3) := by decide +kernel
theorem dX2_readNumber_77 : decode cX2_readNumber 77 = .ok (.return_, 1) := by decide +kernel
theorem dX2_readName_0 : decode cX2_readName 0 = .ok (.aload_n 0, 1) := by decide +kernel
theorem dX2_readName_1 : decode cX2_readName 1 = .ok (.getfield 12, 3) := by decide +kernel
theorem dX2_readName_4 : decode cX2_readName 4 = .ok (.getfield 54, 3) := by decide +kernel
theorem dX2_readName_7 : decode cX2_readName 7 = .ok (.invokestatic 96, 3) := by decide +kernel
theorem dX2_readName_10 : decode cX2_readName 10 = .ok (.aload_n 0, 1) := by decide +kernel
theorem dX2_readName_11 : decode cX2_readName 11 = .ok (.invokevirtual 65, 3) := by decide +kernel
theorem dX2_readName_14 : decode cX2_readName 14 = .ok (.i2c, 1) := by decide +kernel
theorem dX2_readName_15 : decode cX2_readName 15 = .ok (.invokevirtual 100, 3) := by decide +kernel
theorem dX2_readName_18 : decode cX2_readName 18 = .ok (.istore_n 1, 1) := by decide +kernel
theorem dX2_readName_19 : decode cX2_readName 19 = .ok (.aload_n 0, 1) := by decide +kernel
theorem dX2_readName_20 : decode cX2_readName 20 = .ok (.getfield 89, 3) := by decide +kernel
theorem dX2_readName_23 : decode cX2_readName 23 = .ok (.ifCond .ne 20, 3) := by decide +kernel
theorem dX2_readName_26 : decode cX2_readName 26 = .ok (.aload_n 0, 1) := by decide +kernel
theorem dX2_readName_27 : decode cX2_readName 27 = .ok (.getfield 32, 3) := by decide +kernel
theorem dX2_readName_30 : decode cX2_readName 30 = .ok (.aload_n 0, 1) := by decide +kernel
theorem dX2_readName_31 : decode cX2_readName 31 = .ok (.getfield 45, 3) := by decide +kernel
theorem dX2_readName_34 : decode cX2_readName 34 = .ok (.isub, 1) := by decide +kernel
theorem dX2_readName_35 : decode cX2_readName 35 = .ok (.iconst 1, 1) := by decide +kernel
theorem dX2_readName_36 : decode cX2_readName 36 = .ok (.if_icmp .ne 7, 3) := by decide +kernel
theorem dX2_readName_39 : decode cX2_readName 39 = .ok (.iload_n 1, 1) := by decide +kernel
theorem dX2_readName_40 : decode cX2_readName 40 = .ok (.ifCond .ge 12, 3) := by decide +kernel
theorem dX2_readName_43 : decode cX2_readName 43 = .ok (.aload_n 0, 1) := by decide +kernel
theorem dX2_readName_44 : decode cX2_readName 44 = .ok (.aload_n 0, 1) := by decide +kernel
theorem dX2_readName_45 : decode cX2_readName 45 = .ok (.getfield 45, 3) := by decide +kernel
theorem dX2_readName_48 : decode cX2_readName 48 = .ok (.putfield 29, 3) := by decide +kernel
theorem dX2_readName_51 : decode cX2_readName 51 = .ok (.return_, 1) := by decide +kernel
theorem dX2_readName_52 : decode cX2_readName 52 = .ok (.aload_n 0, 1) := by decide +kernel
theorem dX2_readName_53 : decode cX2_readName 53 = .ok (.getfield 12, 3) := by decide +kernel
theorem dX2_readName_56 : decode cX2_readName 56 = .ok (.iload_n 1, 1) := by decide +kernel
theorem dX2_readName_57 : decode cX2_readName 57 = .ok (.invokevirtual 105, 3) := by decide +kernel
theorem dX2_readName_60 : decode cX2_readName 60 = .ok (.aload_n 0, 1) := by decide +kernel
theorem dX2_readName_61 : decode cX2_readName 61 = .ok (.invokevirtual 35, 3) := by decide +kernel
theorem dX2_readName_64 : decode cX2_readName 64 = .ok (.return_, 1) := by decide +kernel
theorem dX2_readClosing_0 : decode cX2_readClosing 0 = .ok (.aload_n 0, 1) := by decide +kernel
theorem dX2_readClosing_1 : decode cX2_readClosing 1 = .ok (.getfield 29, 3) := by decide +kernel
theorem dX2_readClosing_4 : decode cX2_readClosing 4 = .ok (.ifCond .lt 4, 3) := by decide +kernel
theorem dX2_readClosing_7 : decode cX2_readClosing 7 = .ok (.return_, 1) := by decide +kernel
theorem dX2_readClosing_8 : decode cX2_readClosing 8 = .ok (.aload_n 0, 1) := by decide +kernel
theorem dX2_readClosing_9 : decode cX2_readClosing 9 = .ok (.invokevirtual 65, 3) := by decide +kernel
theorem dX2_readClosing_12 : decode cX2_readClosing 12 = .ok (.bipush 41, 2) := by decide +kernel
theorem dX2_readClosing_14 : decode cX2_readClosing 14 = .ok (.if_icmp .ne 10, 3) := by decide +kernel
theorem dX2_readClosing_17 : decode cX2_readClosing 17 = .ok (.aload_n 0, 1) := by decide +kernel
theorem dX2_readClosing_18 : decode cX2_readClosing 18 = .ok (.invokevirtual 35, 3) := by decide +kernel
theorem dX2_readClosing_21 : decode cX2_readClosing 21 = .ok (.goto 11, 3) := by decide +kernel
theorem dX2_readClosing_24 : decode cX2_readClosing 24 = .ok (.aload_n 0, 1) := by decide +kernel
theorem dX2_readClosing_25 : decode cX2_readClosing 25 = .ok (.aload_n 0, 1) := by decide +kernel
theorem dX2_readClosing_26 : decode cX2_readClosing 26 = .ok (.getfield 45, 3) := by decide +kernel
theorem dX2_readClosing_29 : decode cX2_readClosing 29 = .ok (.putfield 29, 3) := by decide +kernel
theorem dX2_readClosing_32 : decode cX2_readClosing 32 = .ok (.return_, 1) := by decide +kernel
theorem dX2_step_0 : decode cX2_step 0 = .ok (.aload_n 0, 1) := by decide +kernel
theorem dX2_step_1 : decode cX2_step 1 = .ok (.getfield 32, 3) := by decide +kernel
theorem dX2_step_4 : decode cX2_step 4 = .ok (.istore_n 1, 1) := by decide +kernel
theorem dX2_step_5 : decode cX2_step 5 = .ok (.aload_n 0, 1) := by decide +kernel
theorem dX2_step_6 : decode cX2_step 6 = .ok (.iload_n 1, 1) := by decide +kernel
theorem dX2_step_7 : decode cX2_step 7 = .ok (.putfield 45, 3) := by decide +kernel
theorem dX2_step_10 : decode cX2_step 10 = .ok (.aload_n 0, 1) := by decide +kernel
theorem dX2_step_11 : decode cX2_step 11 = .ok (.getfield 45, 3) := by decide +kernel
theorem dX2_step_14 : decode cX2_step 14 = .ok (.aload_n 0, 1) := by decide +kernel
theorem dX2_step_15 : decode cX2_step 15 = .ok (.getfield 22, 3) := by decide +kernel
theorem dX2_step_18 : decode cX2_step 18 = .ok (.if_icmp .ge 30, 3) := by decide +kernel
theorem dX2_step_21 : decode cX2_step 21 = .ok (.aload_n 0, 1) := by decide +kernel
theorem dX2_step_22 : decode cX2_step 22 = .ok (.getfield 18, 3) := by decide +kernel
theorem dX2_step_25 : decode cX2_step 25 = .ok (.aload_n 0, 1) := by decide +kernel
theorem dX2_step_26 : decode cX2_step 26 = .ok (.getfield 45, 3) := by decide +kernel
theorem dX2_step_29 : decode cX2_step 29 = .ok (.iaload, 1) := by decide +kernel
theorem dX2_step_30 : decode cX2_step 30 = .ok (.bipush 32, 2) := by decide +kernel
theorem dX2_step_32 : decode cX2_step 32 = .ok (.if_icmp .ne 16, 3) := by decide +kernel
theorem dX2_step_35 : decode cX2_step 35 = .ok (.aload_n 0, 1) := by decide +kernel
theorem dX2_step_36 : decode cX2_step 36 = .ok (.dup, 1) := by decide +kernel
theorem dX2_step_37 : decode cX2_step 37 = .ok (.getfield 45, 3) := by decide +kernel
theorem dX2_step_40 : decode cX2_step 40 = .ok (.iconst 1, 1) := by decide +kernel
theorem dX2_step_41 : decode cX2_step 41 = .ok (.iadd, 1) := by decide +kernel
theorem dX2_step_42 : decode cX2_step 42 = .ok (.putfield 45, 3) := by decide +kernel
theorem dX2_step_45 : decode cX2_step 45 = .ok (.goto (-35), 3) := by decide +kernel
theorem dX2_step_48 : decode cX2_step 48 = .ok (.aload_n 0, 1) := by decide +kernel
theorem dX2_step_49 : decode cX2_step 49 = .ok (.invokevirtual 65, 3) := by decide +kernel
theorem dX2_step_52 : decode cX2_step 52 = .ok (.invokestatic 77, 3) := by decide +kernel
theorem dX2_step_55 : decode cX2_step 55 = .ok (.istore_n 2, 1) := by decide +kernel
theorem dX2_step_56 : decode cX2_step 56 = .ok (.aload_n 0, 1) := by decide +kernel
theorem dX2_step_57 : decode cX2_step 57 = .ok (.iload_n 2, 1) := by decide +kernel
theorem dX2_step_58 : decode cX2_step 58 = .ok (.ifCond .eq 33, 3) := by decide +kernel
theorem dX2_step_61 : decode cX2_step 61 = .ok (.aload_n 0, 1) := by decide +kernel
theorem dX2_step_62 : decode cX2_step 62 = .ok (.getfield 45, 3) := by decide +kernel
theorem dX2_step_65 : decode cX2_step 65 = .ok (.iload_n 1, 1) := by decide +kernel
theorem dX2_step_66 : decode cX2_step 66 = .ok (.if_icmp .ne 25, 3) := by decide +kernel
theorem dX2_step_69 : decode cX2_step 69 = .ok (.iload_n 1, 1) := by decide +kernel
theorem dX2_step_70 : decode cX2_step 70 = .ok (.ifCond .le 21, 3) := by decide +kernel
theorem dX2_step_73 : decode cX2_step 73 = .ok (.aload_n 0, 1) := by decide +kernel
theorem dX2_step_74 : decode cX2_step 74 = .ok (.getfield 18, 3) := by decide +kernel
theorem dX2_step_77 : decode cX2_step 77 = .ok (.iload_n 1, 1) := by decide +kernel
theorem dX2_step_78 : decode cX2_step 78 = .ok (.iconst 1, 1) := by decide +kernel
theorem dX2_step_79 : decode cX2_step 79 = .ok (.isub, 1) := by decide +kernel
theorem dX2_step_80 : decode cX2_step 80 = .ok (.iaload, 1) := by decide +kernel
theorem dX2_step_81 : decode cX2_step 81 = .ok (.invokestatic 77, 3) := by decide +kernel
theorem dX2_step_84 : decode cX2_step 84 = .ok (.ifCond .eq 7, 3) := by decide +kernel
theorem dX2_step_87 : decode cX2_step 87 = .ok (.iconst 1, 1) := by decide +kernel
theorem dX2_step_88 : decode cX2_step 88 = .ok (.goto 4, 3) := by decide +kernel
theorem dX2_step_91 : decode cX2_step 91 = .ok (.iconst 0, 1) := by decide +kernel
theorem dX2_step_92 : decode cX2_step 92 = .ok (.putfield 89, 3) := by decide +kernel
theorem dX2_step_95 : decode cX2_step 95 = .ok (.aload_n 0, 1) := by decide +kernel
theorem dX2_step_96 : decode cX2_step 96 = .ok (.aload_n 0, 1) := by decide +kernel
theorem dX2_step_97 : decode cX2_step 97 = .ok (.getfield 45, 3) := by decide +kernel
theorem dX2_step_100 : decode cX2_step 100 = .ok (.iconst 1, 1) := by decide +kernel
theorem dX2_step_101 : decode cX2_step 101 = .ok (.iadd, 1) := by decide +kernel
theorem dX2_step_102 : decode cX2_step 102 = .ok (.aload_n 0, 1) := by decide +kernel
theorem dX2_step_103 : decode cX2_step 103 = .ok (.getfield 22, 3) := by decide +kernel
theorem dX2_step_106 : decode cX2_step 106 = .ok (.invokestatic 108, 3) := by decide +kernel
theorem dX2_step_109 : decode cX2_step 109 = .ok (.putfield 32, 3) := by decide +kernel
theorem dX2_step_112 : decode cX2_step 112 = .ok (.iload_n 2, 1) := by decide +kernel
theorem dX2_step_113 : decode cX2_step 113 = .ok (.ifCond .eq 43, 3) := by decide +kernel
theorem dX2_step_116 : decode cX2_step 116 = .ok (.aload_n 0, 1) := by decide +kernel
theorem dX2_step_117 : decode cX2_step 117 = .ok (.getfield 32, 3) := by decide +kernel
theorem dX2_step_120 : decode cX2_step 120 = .ok (.aload_n 0, 1) := by decide +kernel
theorem dX2_step_121 : decode cX2_step 121 = .ok (.getfield 22, 3) := by decide +kernel
theorem dX2_step_124 : decode cX2_step 124 = .ok (.if_icmp .ge 32, 3) := by decide +kernel
theorem dX2_step_127 : decode cX2_step 127 = .ok (.aload_n 0, 1) := by decide +kernel
theorem dX2_step_128 : decode cX2_step 128 = .ok (.getfield 18, 3) := by decide +kernel
theorem dX2_step_131 : decode cX2_step 131 = .ok (.aload_n 0, 1) := by decide +kernel
theorem dX2_step_132 : decode cX2_step 132 = .ok (.getfield 32, 3) := by decide +kernel
theorem dX2_step_135 : decode cX2_step 135 = .ok (.iaload, 1) := by decide +kernel
theorem dX2_step_136 : decode cX2_step 136 = .ok (.invokestatic 77, 3) := by decide +kernel
theorem dX2_step_139 : decode cX2_step 139 = .ok (.iload_n 2, 1) := by decide +kernel
theorem dX2_step_140 : decode cX2_step 140 = .ok (.if_icmp .ne 16, 3) := by decide +kernel
theorem dX2_step_143 : decode cX2_step 143 = .ok (.aload_n 0, 1) := by decide +kernel
theorem dX2_step_144 : decode cX2_step 144 = .ok (.dup, 1) := by decide +kernel
theorem dX2_step_145 : decode cX2_step 145 = .ok (.getfield 32, 3) := by decide +kernel
theorem dX2_step_148 : decode cX2_step 148 = .ok (.iconst 1, 1) := by decide +kernel
theorem dX2_step_149 : decode cX2_step 149 = .ok (.iadd, 1) := by decide +kernel
theorem dX2_step_150 : decode cX2_step 150 = .ok (.putfield 32, 3) := by decide +kernel
theorem dX2_step_153 : decode cX2_step 153 = .ok (.goto (-41), 3) := by decide +kernel
theorem dX2_step_156 : decode cX2_step 156 = .ok (.return_, 1) := by decide +kernel
theorem dX2_head_0 : decode cX2_head 0 = .ok (.aload_n 0, 1) := by decide +kernel
theorem dX2_head_1 : decode cX2_head 1 = .ok (.getfield 45, 3) := by decide +kernel
theorem dX2_head_4 : decode cX2_head 4 = .ok (.aload_n 0, 1) := by decide +kernel
theorem dX2_head_5 : decode cX2_head 5 = .ok (.getfield 22, 3) := by decide +kernel
theorem dX2_head_8 : decode cX2_head 8 = .ok (.if_icmp .ge 15, 3) := by decide +kernel
theorem dX2_head_11 : decode cX2_head 11 = .ok (.aload_n 0, 1) := by decide +kernel
theorem dX2_head_12 : decode cX2_head 12 = .ok (.getfield 18, 3) := by decide +kernel
theorem dX2_head_15 : decode cX2_head 15 = .ok (.aload_n 0, 1) := by decide +kernel
theorem dX2_head_16 : decode cX2_head 16 = .ok (.getfield 45, 3) := by decide +kernel
theorem dX2_head_19 : decode cX2_head 19 = .ok (.iaload, 1) := by decide +kernel
theorem dX2_head_20 : decode cX2_head 20 = .ok (.goto 4, 3) := by decide +kernel
theorem dX2_head_23 : decode cX2_head 23 = .ok (.iconst (-1), 1) := by decide +kernel
theorem dX2_head_24 : decode cX2_head 24 = .ok (.ireturn, 1) := by decide +kernel
theorem dX2_isWord_0 : decode cX2_isWord 0 = .ok (.aload_n 0, 1) := by decide +kernel
theorem dX2_isWord_1 : decode cX2_isWord 1 = .ok (.getfield 32, 3) := by decide +kernel
theorem dX2_isWord_4 : decode cX2_isWord 4 = .ok (.aload_n 0, 1) := by decide +kernel
theorem dX2_isWord_5 : decode cX2_isWord 5 = .ok (.getfield 45, 3) := by decide +kernel
theorem dX2_isWord_8 : decode cX2_isWord 8 = .ok (.isub, 1) := by decide +kernel
theorem dX2_isWord_9 : decode cX2_isWord 9 = .ok (.aload_n 1, 1) := by decide +kernel
theorem dX2_isWord_10 : decode cX2_isWord 10 = .ok (.invokevirtual 114, 3) := by decide +kernel
theorem dX2_isWord_13 : decode cX2_isWord 13 = .ok (.if_icmp .eq 5, 3) := by decide +kernel
theorem dX2_isWord_16 : decode cX2_isWord 16 = .ok (.iconst 0, 1) := by decide +kernel
theorem dX2_isWord_17 : decode cX2_isWord 17 = .ok (.ireturn, 1) := by decide +kernel
theorem dX2_isWord_18 : decode cX2_isWord 18 = .ok (.iconst 0, 1) := by decide +kernel
theorem dX2_isWord_19 : decode cX2_isWord 19 = .ok (.istore_n 2, 1) := by decide +kernel
theorem dX2_isWord_20 : decode cX2_isWord 20 = .ok (.iload_n 2, 1) := by decide +kernel
theorem dX2_isWord_21 : decode cX2_isWord 21 = .ok (.aload_n 1, 1) := by decide +kernel
theorem dX2_isWord_22 : decode cX2_isWord 22 = .ok (.invokevirtual 114, 3) := by decide +kernel
theorem dX2_isWord_25 : decode cX2_isWord 25 = .ok (.if_icmp .ge 30, 3) := by decide +kernel
theorem dX2_isWord_28 : decode cX2_isWord 28 = .ok (.aload_n 0, 1) := by decide +kernel
theorem dX2_isWord_29 : decode cX2_isWord 29 = .ok (.getfield 18, 3) := by decide +kernel
theorem dX2_isWord_32 : decode cX2_isWord 32 = .ok (.aload_n 0, 1) := by decide +kernel
theorem dX2_isWord_33 : decode cX2_isWord 33 = .ok (.getfield 45, 3) := by decide +kernel
theorem dX2_isWord_36 : decode cX2_isWord 36 = .ok (.iload_n 2, 1) := by decide +kernel
theorem dX2_isWord_37 : decode cX2_isWord 37 = .ok (.iadd, 1) := by decide +kernel
theorem dX2_isWord_38 : decode cX2_isWord 38 = .ok (.iaload, 1) := by decide +kernel
theorem dX2_isWord_39 : decode cX2_isWord 39 = .ok (.aload_n 1, 1) := by decide +kernel
theorem dX2_isWord_40 : decode cX2_isWord 40 = .ok (.iload_n 2, 1) := by decide +kernel
theorem dX2_isWord_41 : decode cX2_isWord 41 = .ok (.invokevirtual 116, 3) := by decide +kernel
theorem dX2_isWord_44 : decode cX2_isWord 44 = .ok (.if_icmp .eq 5, 3) := by decide +kernel
theorem dX2_isWord_47 : decode cX2_isWord 47 = .ok (.iconst 0, 1) := by decide +kernel
theorem dX2_isWord_48 : decode cX2_isWord 48 = .ok (.ireturn, 1) := by decide +kernel
theorem dX2_isWord_49 : decode cX2_isWord 49 = .ok (.iinc 2 1, 3) := by decide +kernel
theorem dX2_isWord_52 : decode cX2_isWord 52 = .ok (.goto (-32), 3) := by decide +kernel
theorem dX2_isWord_55 : decode cX2_isWord 55 = .ok (.iconst 1, 1) := by decide +kernel
theorem dX2_isWord_56 : decode cX2_isWord 56 = .ok (.ireturn, 1) := by decide +kernel
theorem dX2_sortOf_0 : decode cX2_sortOf 0 = .ok (.iload_n 0, 1) := by decide +kernel
theorem dX2_sortOf_1 : decode cX2_sortOf 1 = .ok (.bipush 97, 2) := by decide +kernel
theorem dX2_sortOf_3 : decode cX2_sortOf 3 = .ok (.if_icmp .lt 11, 3) := by decide +kernel
theorem dX2_sortOf_6 : decode cX2_sortOf 6 = .ok (.iload_n 0, 1) := by decide +kernel
theorem dX2_sortOf_7 : decode cX2_sortOf 7 = .ok (.bipush 122, 2) := by decide +kernel
theorem dX2_sortOf_9 : decode cX2_sortOf 9 = .ok (.if_icmp .gt 5, 3) := by decide +kernel
theorem dX2_sortOf_12 : decode cX2_sortOf 12 = .ok (.iconst 1, 1) := by decide +kernel
theorem dX2_sortOf_13 : decode cX2_sortOf 13 = .ok (.ireturn, 1) := by decide +kernel
theorem dX2_sortOf_14 : decode cX2_sortOf 14 = .ok (.iload_n 0, 1) := by decide +kernel
theorem dX2_sortOf_15 : decode cX2_sortOf 15 = .ok (.bipush 48, 2) := by decide +kernel
theorem dX2_sortOf_17 : decode cX2_sortOf 17 = .ok (.if_icmp .lt 13, 3) := by decide +kernel
theorem dX2_sortOf_20 : decode cX2_sortOf 20 = .ok (.iload_n 0, 1) := by decide +kernel
theorem dX2_sortOf_21 : decode cX2_sortOf 21 = .ok (.bipush 57, 2) := by decide +kernel
theorem dX2_sortOf_23 : decode cX2_sortOf 23 = .ok (.if_icmp .gt 7, 3) := by decide +kernel
theorem dX2_sortOf_26 : decode cX2_sortOf 26 = .ok (.iconst 2, 1) := by decide +kernel
theorem dX2_sortOf_27 : decode cX2_sortOf 27 = .ok (.goto 4, 3) := by decide +kernel
theorem dX2_sortOf_30 : decode cX2_sortOf 30 = .ok (.iconst 0, 1) := by decide +kernel
theorem dX2_sortOf_31 : decode cX2_sortOf 31 = .ok (.ireturn, 1) := by decide +kernel
theorem dX2_namesOf_0 : decode cX2_namesOf 0 = .ok (.iload_n 0, 1) := by decide +kernel
theorem dX2_namesOf_1 : decode cX2_namesOf 1 = .ok (.lookupswitch 33 #[(0, 27), (1, 30)], 27) := by decide +kernel
theorem dX2_namesOf_28 : decode cX2_namesOf 28 = .ok (.ldc 120, 2) := by decide +kernel
theorem dX2_namesOf_30 : decode cX2_namesOf 30 = .ok (.areturn, 1) := by decide +kernel
theorem dX2_namesOf_31 : decode cX2_namesOf 31 = .ok (.ldc 122, 2) := by decide +kernel
theorem dX2_namesOf_33 : decode cX2_namesOf 33 = .ok (.areturn, 1) := by decide +kernel
theorem dX2_namesOf_34 : decode cX2_namesOf 34 = .ok (.ldc 124, 2) := by decide +kernel
theorem dX2_namesOf_36 : decode cX2_namesOf 36 = .ok (.areturn, 1) := by decide +kernel
theorem dX2_loosenessOf_0 : decode cX2_loosenessOf 0 = .ok (.iload_n 0, 1) := by decide +kernel
theorem dX2_loosenessOf_1 : decode cX2_loosenessOf 1 = .ok (.lookupswitch 93 #[(38, 85), (42, 91), (43, 89), (45, 89), (47, 91), (60, 87), (61, 87), (62, 87), (124, 83)], 83) := by decide +kernel
theorem dX2_loosenessOf_84 : decode cX2_loosenessOf 84 = .ok (.iconst 0, 1) := by decide +kernel
theorem dX2_loosenessOf_85 : decode cX2_loosenessOf 85 = .ok (.ireturn, 1) := by decide +kernel
theorem dX2_loosenessOf_86 : decode cX2_loosenessOf 86 = .ok (.iconst 1, 1) := by decide +kernel
theorem dX2_loosenessOf_87 : decode cX2_loosenessOf 87 = .ok (.ireturn, 1) := by decide +kernel
theorem dX2_loosenessOf_88 : decode cX2_loosenessOf 88 = .ok (.iconst 2, 1) := by decide +kernel
theorem dX2_loosenessOf_89 : decode cX2_loosenessOf 89 = .ok (.ireturn, 1) := by decide +kernel
theorem dX2_loosenessOf_90 : decode cX2_loosenessOf 90 = .ok (.iconst 3, 1) := by decide +kernel
theorem dX2_loosenessOf_91 : decode cX2_loosenessOf 91 = .ok (.ireturn, 1) := by decide +kernel
theorem dX2_loosenessOf_92 : decode cX2_loosenessOf 92 = .ok (.iconst 4, 1) := by decide +kernel
theorem dX2_loosenessOf_93 : decode cX2_loosenessOf 93 = .ok (.ireturn, 1) := by decide +kernel
theorem dX2_loosenessOf_94 : decode cX2_loosenessOf 94 = .ok (.iconst (-1), 1) := by decide +kernel
theorem dX2_loosenessOf_95 : decode cX2_loosenessOf 95 = .ok (.ireturn, 1) := by decide +kernel
theorem dX3_init_0 : decode cX3_init 0 = .ok (.aload_n 0, 1) := by decide +kernel
theorem dX3_init_1 : decode cX3_init 1 = .ok (.invokespecial 3, 3) := by decide +kernel
theorem dX3_init_4 : decode cX3_init 4 = .ok (.aload_n 0, 1) := by decide +kernel
theorem dX3_init_5 : decode cX3_init 5 = .ok (.iconst (-1), 1) := by decide +kernel
theorem dX3_init_6 : decode cX3_init 6 = .ok (.putfield 11, 3) := by decide +kernel
theorem dX3_init_9 : decode cX3_init 9 = .ok (.aload_n 0, 1) := by decide +kernel
theorem dX3_init_10 : decode cX3_init 10 = .ok (.bipush 24, 2) := by decide +kernel
theorem dX3_init_12 : decode cX3_init 12 = .ok (.newarray .int, 2) := by decide +kernel
theorem dX3_init_14 : decode cX3_init 14 = .ok (.putfield 15, 3) := by decide +kernel
theorem dX3_init_17 : decode cX3_init 17 = .ok (.return_, 1) := by decide +kernel
theorem dX3_isMissing_0 : decode cX3_isMissing 0 = .ok (.aload_n 0, 1) := by decide +kernel
theorem dX3_isMissing_1 : decode cX3_isMissing 1 = .ok (.getfield 11, 3) := by decide +kernel
theorem dX3_isMissing_4 : decode cX3_isMissing 4 = .ok (.iconst (-1), 1) := by decide +kernel
theorem dX3_isMissing_5 : decode cX3_isMissing 5 = .ok (.if_icmp .ne 7, 3) := by decide +kernel
theorem dX3_isMissing_8 : decode cX3_isMissing 8 = .ok (.iconst 1, 1) := by decide +kernel
theorem dX3_isMissing_9 : decode cX3_isMissing 9 = .ok (.goto 4, 3) := by decide +kernel
theorem dX3_isMissing_12 : decode cX3_isMissing 12 = .ok (.iconst 0, 1) := by decide +kernel
theorem dX3_isMissing_13 : decode cX3_isMissing 13 = .ok (.ireturn, 1) := by decide +kernel
theorem dX3_hasPlace_0 : decode cX3_hasPlace 0 = .ok (.iload_n 1, 1) := by decide +kernel
theorem dX3_hasPlace_1 : decode cX3_hasPlace 1 = .ok (.ifCond .lt 15, 3) := by decide +kernel
theorem dX3_hasPlace_4 : decode cX3_hasPlace 4 = .ok (.iload_n 1, 1) := by decide +kernel
theorem dX3_hasPlace_5 : decode cX3_hasPlace 5 = .ok (.aload_n 0, 1) := by decide +kernel
theorem dX3_hasPlace_6 : decode cX3_hasPlace 6 = .ok (.getfield 19, 3) := by decide +kernel
theorem dX3_hasPlace_9 : decode cX3_hasPlace 9 = .ok (.if_icmp .ge 7, 3) := by decide +kernel
theorem dX3_hasPlace_12 : decode cX3_hasPlace 12 = .ok (.iconst 1, 1) := by decide +kernel
theorem dX3_hasPlace_13 : decode cX3_hasPlace 13 = .ok (.goto 4, 3) := by decide +kernel
theorem dX3_hasPlace_16 : decode cX3_hasPlace 16 = .ok (.iconst 0, 1) := by decide +kernel
theorem dX3_hasPlace_17 : decode cX3_hasPlace 17 = .ok (.ireturn, 1) := by decide +kernel
theorem dX3_hasPlaces_0 : decode cX3_hasPlaces 0 = .ok (.iload_n 1, 1) := by decide +kernel
theorem dX3_hasPlaces_1 : decode cX3_hasPlaces 1 = .ok (.ifCond .lt 29, 3) := by decide +kernel
theorem dX3_hasPlaces_4 : decode cX3_hasPlaces 4 = .ok (.iload_n 2, 1) := by decide +kernel
theorem dX3_hasPlaces_5 : decode cX3_hasPlaces 5 = .ok (.ifCond .lt 25, 3) := by decide +kernel
theorem dX3_hasPlaces_8 : decode cX3_hasPlaces 8 = .ok (.iload_n 2, 1) := by decide +kernel
theorem dX3_hasPlaces_9 : decode cX3_hasPlaces 9 = .ok (.aload_n 0, 1) := by decide +kernel
theorem dX3_hasPlaces_10 : decode cX3_hasPlaces 10 = .ok (.getfield 19, 3) := by decide +kernel
theorem dX3_hasPlaces_13 : decode cX3_hasPlaces 13 = .ok (.if_icmp .gt 17, 3) := by decide +kernel
theorem dX3_hasPlaces_16 : decode cX3_hasPlaces 16 = .ok (.iload_n 1, 1) := by decide +kernel
theorem dX3_hasPlaces_17 : decode cX3_hasPlaces 17 = .ok (.aload_n 0, 1) := by decide +kernel
theorem dX3_hasPlaces_18 : decode cX3_hasPlaces 18 = .ok (.getfield 19, 3) := by decide +kernel
theorem dX3_hasPlaces_21 : decode cX3_hasPlaces 21 = .ok (.iload_n 2, 1) := by decide +kernel
theorem dX3_hasPlaces_22 : decode cX3_hasPlaces 22 = .ok (.isub, 1) := by decide +kernel
theorem dX3_hasPlaces_23 : decode cX3_hasPlaces 23 = .ok (.if_icmp .gt 7, 3) := by decide +kernel
theorem dX3_hasPlaces_26 : decode cX3_hasPlaces 26 = .ok (.iconst 1, 1) := by decide +kernel
theorem dX3_hasPlaces_27 : decode cX3_hasPlaces 27 = .ok (.goto 4, 3) := by decide +kernel
theorem dX3_hasPlaces_30 : decode cX3_hasPlaces 30 = .ok (.iconst 0, 1) := by decide +kernel
theorem dX3_hasPlaces_31 : decode cX3_hasPlaces 31 = .ok (.ireturn, 1) := by decide +kernel
theorem dX3_hasNumber_0 : decode cX3_hasNumber 0 = .ok (.aload_n 0, 1) := by decide +kernel
theorem dX3_hasNumber_1 : decode cX3_hasNumber 1 = .ok (.iload_n 1, 1) := by decide +kernel
theorem dX3_hasNumber_2 : decode cX3_hasNumber 2 = .ok (.invokevirtual 22, 3) := by decide +kernel
theorem dX3_hasNumber_5 : decode cX3_hasNumber 5 = .ok (.ifCond .eq 18, 3) := by decide +kernel
theorem dX3_hasNumber_8 : decode cX3_hasNumber 8 = .ok (.aload_n 0, 1) := by decide +kernel
theorem dX3_hasNumber_9 : decode cX3_hasNumber 9 = .ok (.getfield 15, 3) := by decide +kernel
theorem dX3_hasNumber_12 : decode cX3_hasNumber 12 = .ok (.iload_n 1, 1) := by decide +kernel
theorem dX3_hasNumber_13 : decode cX3_hasNumber 13 = .ok (.iaload, 1) := by decide +kernel
theorem dX3_hasNumber_14 : decode cX3_hasNumber 14 = .ok (.ldc 26, 2) := by decide +kernel
theorem dX3_hasNumber_16 : decode cX3_hasNumber 16 = .ok (.if_icmp .eq 7, 3) := by decide +kernel
theorem dX3_hasNumber_19 : decode cX3_hasNumber 19 = .ok (.iconst 1, 1) := by decide +kernel
theorem dX3_hasNumber_20 : decode cX3_hasNumber 20 = .ok (.goto 4, 3) := by decide +kernel
theorem dX3_hasNumber_23 : decode cX3_hasNumber 23 = .ok (.iconst 0, 1) := by decide +kernel
theorem dX3_hasNumber_24 : decode cX3_hasNumber 24 = .ok (.ireturn, 1) := by decide +kernel
theorem dX3_clear_0 : decode cX3_clear 0 = .ok (.aload_n 0, 1) := by decide +kernel
theorem dX3_clear_1 : decode cX3_clear 1 = .ok (.iload_n 1, 1) := by decide +kernel
theorem dX3_clear_2 : decode cX3_clear 2 = .ok (.putfield 11, 3) := by decide +kernel
theorem dX3_clear_5 : decode cX3_clear 5 = .ok (.aload_n 0, 1) := by decide +kernel
theorem dX3_clear_6 : decode cX3_clear 6 = .ok (.iload_n 2, 1) := by decide +kernel
theorem dX3_clear_7 : decode cX3_clear 7 = .ok (.putfield 19, 3) := by decide +kernel
theorem dX3_clear_10 : decode cX3_clear 10 = .ok (.iconst 0, 1) := by decide +kernel
theorem dX3_clear_11 : decode cX3_clear 11 = .ok (.istore_n 3, 1) := by decide +kernel
theorem dX3_clear_12 : decode cX3_clear 12 = .ok (.iload_n 3, 1) := by decide +kernel
theorem dX3_clear_13 : decode cX3_clear 13 = .ok (.bipush 24, 2) := by decide +kernel
theorem dX3_clear_15 : decode cX3_clear 15 = .ok (.if_icmp .ge 16, 3) := by decide +kernel
theorem dX3_clear_18 : decode cX3_clear 18 = .ok (.aload_n 0, 1) := by decide +kernel
theorem dX3_clear_19 : decode cX3_clear 19 = .ok (.getfield 15, 3) := by decide +kernel
theorem dX3_clear_22 : decode cX3_clear 22 = .ok (.iload_n 3, 1) := by decide +kernel
theorem dX3_clear_23 : decode cX3_clear 23 = .ok (.iconst 0, 1) := by decide +kernel
theorem dX3_clear_24 : decode cX3_clear 24 = .ok (.iastore, 1) := by decide +kernel
theorem dX3_clear_25 : decode cX3_clear 25 = .ok (.iinc 3 1, 3) := by decide +kernel
theorem dX3_clear_28 : decode cX3_clear 28 = .ok (.goto (-16), 3) := by decide +kernel
theorem dX3_clear_31 : decode cX3_clear 31 = .ok (.return_, 1) := by decide +kernel
theorem dX3_become_0 : decode cX3_become 0 = .ok (.aload_n 0, 1) := by decide +kernel
theorem dX3_become_1 : decode cX3_become 1 = .ok (.aload_n 1, 1) := by decide +kernel
theorem dX3_become_2 : decode cX3_become 2 = .ok (.getfield 11, 3) := by decide +kernel
theorem dX3_become_5 : decode cX3_become 5 = .ok (.putfield 11, 3) := by decide +kernel
theorem dX3_become_8 : decode cX3_become 8 = .ok (.aload_n 0, 1) := by decide +kernel
theorem dX3_become_9 : decode cX3_become 9 = .ok (.aload_n 1, 1) := by decide +kernel
theorem dX3_become_10 : decode cX3_become 10 = .ok (.getfield 19, 3) := by decide +kernel
theorem dX3_become_13 : decode cX3_become 13 = .ok (.putfield 19, 3) := by decide +kernel
theorem dX3_become_16 : decode cX3_become 16 = .ok (.aload_n 1, 1) := by decide +kernel
theorem dX3_become_17 : decode cX3_become 17 = .ok (.getfield 15, 3) := by decide +kernel
theorem dX3_become_20 : decode cX3_become 20 = .ok (.iconst 0, 1) := by decide +kernel
theorem dX3_become_21 : decode cX3_become 21 = .ok (.aload_n 0, 1) := by decide +kernel
theorem dX3_become_22 : decode cX3_become 22 = .ok (.getfield 15, 3) := by decide +kernel
theorem dX3_become_25 : decode cX3_become 25 = .ok (.iconst 0, 1) := by decide +kernel
theorem dX3_become_26 : decode cX3_become 26 = .ok (.bipush 24, 2) := by decide +kernel
theorem dX3_become_28 : decode cX3_become 28 = .ok (.invokestatic 27, 3) := by decide +kernel
theorem dX3_become_31 : decode cX3_become 31 = .ok (.return_, 1) := by decide +kernel
theorem dX4_init_0 : decode cX4_init 0 = .ok (.aload_n 0, 1) := by decide +kernel
theorem dX4_init_1 : decode cX4_init 1 = .ok (.invokespecial 1, 3) := by decide +kernel
theorem dX4_init_4 : decode cX4_init 4 = .ok (.aload_n 0, 1) := by decide +kernel
theorem dX4_init_5 : decode cX4_init 5 = .ok (.iconst 0, 1) := by decide +kernel
theorem dX4_init_6 : decode cX4_init 6 = .ok (.putfield 9, 3) := by decide +kernel
theorem dX4_init_9 : decode cX4_init 9 = .ok (.aload_n 0, 1) := by decide +kernel
theorem dX4_init_10 : decode cX4_init 10 = .ok (.new 13, 3) := by decide +kernel
theorem dX4_init_13 : decode cX4_init 13 = .ok (.dup, 1) := by decide +kernel
theorem dX4_init_14 : decode cX4_init 14 = .ok (.invokespecial 15, 3) := by decide +kernel
theorem dX4_init_17 : decode cX4_init 17 = .ok (.putfield 16, 3) := by decide +kernel
theorem dX4_init_20 : decode cX4_init 20 = .ok (.return_, 1) := by decide +kernel
theorem dX5_init_0 : decode cX5_init 0 = .ok (.aload_n 0, 1) := by decide +kernel
theorem dX5_init_1 : decode cX5_init 1 = .ok (.invokespecial 3, 3) := by decide +kernel
theorem dX5_init_4 : decode cX5_init 4 = .ok (.aload_n 0, 1) := by decide +kernel
theorem dX5_init_5 : decode cX5_init 5 = .ok (.bipush 8, 2) := by decide +kernel
theorem dX5_init_7 : decode cX5_init 7 = .ok (.newarray .int, 2) := by decide +kernel
theorem dX5_init_9 : decode cX5_init 9 = .ok (.putfield 9, 3) := by decide +kernel
theorem dX5_init_12 : decode cX5_init 12 = .ok (.aload_n 0, 1) := by decide +kernel
theorem dX5_init_13 : decode cX5_init 13 = .ok (.bipush 8, 2) := by decide +kernel
theorem dX5_init_15 : decode cX5_init 15 = .ok (.newarray .int, 2) := by decide +kernel
theorem dX5_init_17 : decode cX5_init 17 = .ok (.putfield 15, 3) := by decide +kernel
theorem dX5_init_20 : decode cX5_init 20 = .ok (.aload_n 0, 1) := by decide +kernel
theorem dX5_init_21 : decode cX5_init 21 = .ok (.bipush 8, 2) := by decide +kernel
theorem dX5_init_23 : decode cX5_init 23 = .ok (.newarray .int, 2) := by decide +kernel
theorem dX5_init_25 : decode cX5_init 25 = .ok (.putfield 18, 3) := by decide +kernel
theorem dX5_init_28 : decode cX5_init 28 = .ok (.aload_n 0, 1) := by decide +kernel
theorem dX5_init_29 : decode cX5_init 29 = .ok (.bipush 24, 2) := by decide +kernel
theorem dX5_init_31 : decode cX5_init 31 = .ok (.newarray .int, 2) := by decide +kernel
theorem dX5_init_33 : decode cX5_init 33 = .ok (.putfield 21, 3) := by decide +kernel
theorem dX5_init_36 : decode cX5_init 36 = .ok (.aload_n 0, 1) := by decide +kernel
theorem dX5_init_37 : decode cX5_init 37 = .ok (.bipush 8, 2) := by decide +kernel
theorem dX5_init_39 : decode cX5_init 39 = .ok (.newarray .int, 2) := by decide +kernel
theorem dX5_init_41 : decode cX5_init 41 = .ok (.putfield 24, 3) := by decide +kernel
theorem dX5_init_44 : decode cX5_init 44 = .ok (.aload_n 0, 1) := by decide +kernel
theorem dX5_init_45 : decode cX5_init 45 = .ok (.bipush 13, 2) := by decide +kernel
theorem dX5_init_47 : decode cX5_init 47 = .ok (.newarray .int, 2) := by decide +kernel
theorem dX5_init_49 : decode cX5_init 49 = .ok (.putfield 27, 3) := by decide +kernel
theorem dX5_init_52 : decode cX5_init 52 = .ok (.aload_n 0, 1) := by decide +kernel
theorem dX5_init_53 : decode cX5_init 53 = .ok (.bipush 13, 2) := by decide +kernel
theorem dX5_init_55 : decode cX5_init 55 = .ok (.newarray .int, 2) := by decide +kernel
theorem dX5_init_57 : decode cX5_init 57 = .ok (.putfield 30, 3) := by decide +kernel
theorem dX5_init_60 : decode cX5_init 60 = .ok (.aload_n 0, 1) := by decide +kernel
theorem dX5_init_61 : decode cX5_init 61 = .ok (.bipush 13, 2) := by decide +kernel
theorem dX5_init_63 : decode cX5_init 63 = .ok (.newarray .int, 2) := by decide +kernel
theorem dX5_init_65 : decode cX5_init 65 = .ok (.putfield 33, 3) := by decide +kernel
theorem dX5_init_68 : decode cX5_init 68 = .ok (.aload_n 0, 1) := by decide +kernel
theorem dX5_init_69 : decode cX5_init 69 = .ok (.bipush 13, 2) := by decide +kernel
theorem dX5_init_71 : decode cX5_init 71 = .ok (.newarray .int, 2) := by decide +kernel
theorem dX5_init_73 : decode cX5_init 73 = .ok (.putfield 36, 3) := by decide +kernel
theorem dX5_init_76 : decode cX5_init 76 = .ok (.aload_n 0, 1) := by decide +kernel
theorem dX5_init_77 : decode cX5_init 77 = .ok (.iconst 1, 1) := by decide +kernel
theorem dX5_init_78 : decode cX5_init 78 = .ok (.putfield 39, 3) := by decide +kernel
theorem dX5_init_81 : decode cX5_init 81 = .ok (.aload_n 0, 1) := by decide +kernel
theorem dX5_init_82 : decode cX5_init 82 = .ok (.iconst 3, 1) := by decide +kernel
theorem dX5_init_83 : decode cX5_init 83 = .ok (.newarray .int, 2) := by decide +kernel
theorem dX5_init_85 : decode cX5_init 85 = .ok (.dup, 1) := by decide +kernel
theorem dX5_init_86 : decode cX5_init 86 = .ok (.iconst 0, 1) := by decide +kernel
theorem dX5_init_87 : decode cX5_init 87 = .ok (.iconst (-1), 1) := by decide +kernel
theorem dX5_init_88 : decode cX5_init 88 = .ok (.iastore, 1) := by decide +kernel
theorem dX5_init_89 : decode cX5_init 89 = .ok (.dup, 1) := by decide +kernel
theorem dX5_init_90 : decode cX5_init 90 = .ok (.iconst 1, 1) := by decide +kernel
theorem dX5_init_91 : decode cX5_init 91 = .ok (.iconst (-1), 1) := by decide +kernel
theorem dX5_init_92 : decode cX5_init 92 = .ok (.iastore, 1) := by decide +kernel
theorem dX5_init_93 : decode cX5_init 93 = .ok (.dup, 1) := by decide +kernel
theorem dX5_init_94 : decode cX5_init 94 = .ok (.iconst 2, 1) := by decide +kernel
theorem dX5_init_95 : decode cX5_init 95 = .ok (.iconst (-1), 1) := by decide +kernel
theorem dX5_init_96 : decode cX5_init 96 = .ok (.iastore, 1) := by decide +kernel
theorem dX5_init_97 : decode cX5_init 97 = .ok (.putfield 43, 3) := by decide +kernel
theorem dX5_init_100 : decode cX5_init 100 = .ok (.aload_n 0, 1) := by decide +kernel
theorem dX5_init_101 : decode cX5_init 101 = .ok (.iconst 3, 1) := by decide +kernel
theorem dX5_init_102 : decode cX5_init 102 = .ok (.newarray .int, 2) := by decide +kernel
theorem dX5_init_104 : decode cX5_init 104 = .ok (.putfield 46, 3) := by decide +kernel
theorem dX5_init_107 : decode cX5_init 107 = .ok (.aload_n 0, 1) := by decide +kernel
theorem dX5_init_108 : decode cX5_init 108 = .ok (.aload_n 1, 1) := by decide +kernel
theorem dX5_init_109 : decode cX5_init 109 = .ok (.putfield 49, 3) := by decide +kernel
theorem dX5_init_112 : decode cX5_init 112 = .ok (.aload_n 0, 1) := by decide +kernel
theorem dX5_init_113 : decode cX5_init 113 = .ok (.aload_n 2, 1) := by decide +kernel
theorem dX5_init_114 : decode cX5_init 114 = .ok (.putfield 53, 3) := by decide +kernel
theorem dX5_init_117 : decode cX5_init 117 = .ok (.return_, 1) := by decide +kernel
theorem dX5_become_0 : decode cX5_become 0 = .ok (.aload_n 1, 1) := by decide +kernel
theorem dX5_become_1 : decode cX5_become 1 = .ok (.getfield 9, 3) := by decide +kernel
theorem dX5_become_4 : decode cX5_become 4 = .ok (.iconst 0, 1) := by decide +kernel
theorem dX5_become_5 : decode cX5_become 5 = .ok (.aload_n 0, 1) := by decide +kernel
theorem dX5_become_6 : decode cX5_become 6 = .ok (.getfield 9, 3) := by decide +kernel
theorem dX5_become_9 : decode cX5_become 9 = .ok (.iconst 0, 1) := by decide +kernel
theorem dX5_become_10 : decode cX5_become 10 = .ok (.bipush 8, 2) := by decide +kernel
theorem dX5_become_12 : decode cX5_become 12 = .ok (.invokestatic 56, 3) := by decide +kernel
theorem dX5_become_15 : decode cX5_become 15 = .ok (.aload_n 1, 1) := by decide +kernel
theorem dX5_become_16 : decode cX5_become 16 = .ok (.getfield 15, 3) := by decide +kernel
theorem dX5_become_19 : decode cX5_become 19 = .ok (.iconst 0, 1) := by decide +kernel
theorem dX5_become_20 : decode cX5_become 20 = .ok (.aload_n 0, 1) := by decide +kernel
theorem dX5_become_21 : decode cX5_become 21 = .ok (.getfield 15, 3) := by decide +kernel
theorem dX5_become_24 : decode cX5_become 24 = .ok (.iconst 0, 1) := by decide +kernel
theorem dX5_become_25 : decode cX5_become 25 = .ok (.bipush 8, 2) := by decide +kernel
theorem dX5_become_27 : decode cX5_become 27 = .ok (.invokestatic 56, 3) := by decide +kernel
theorem dX5_become_30 : decode cX5_become 30 = .ok (.aload_n 1, 1) := by decide +kernel
theorem dX5_become_31 : decode cX5_become 31 = .ok (.getfield 18, 3) := by decide +kernel
theorem dX5_become_34 : decode cX5_become 34 = .ok (.iconst 0, 1) := by decide +kernel
theorem dX5_become_35 : decode cX5_become 35 = .ok (.aload_n 0, 1) := by decide +kernel
theorem dX5_become_36 : decode cX5_become 36 = .ok (.getfield 18, 3) := by decide +kernel
theorem dX5_become_39 : decode cX5_become 39 = .ok (.iconst 0, 1) := by decide +kernel
theorem dX5_become_40 : decode cX5_become 40 = .ok (.bipush 8, 2) := by decide +kernel
theorem dX5_become_42 : decode cX5_become 42 = .ok (.invokestatic 56, 3) := by decide +kernel
theorem dX5_become_45 : decode cX5_become 45 = .ok (.aload_n 1, 1) := by decide +kernel
theorem dX5_become_46 : decode cX5_become 46 = .ok (.getfield 21, 3) := by decide +kernel
theorem dX5_become_49 : decode cX5_become 49 = .ok (.iconst 0, 1) := by decide +kernel
theorem dX5_become_50 : decode cX5_become 50 = .ok (.aload_n 0, 1) := by decide +kernel
theorem dX5_become_51 : decode cX5_become 51 = .ok (.getfield 21, 3) := by decide +kernel
theorem dX5_become_54 : decode cX5_become 54 = .ok (.iconst 0, 1) := by decide +kernel
theorem dX5_become_55 : decode cX5_become 55 = .ok (.bipush 24, 2) := by decide +kernel
theorem dX5_become_57 : decode cX5_become 57 = .ok (.invokestatic 56, 3) := by decide +kernel
theorem dX5_become_60 : decode cX5_become 60 = .ok (.aload_n 1, 1) := by decide +kernel
theorem dX5_become_61 : decode cX5_become 61 = .ok (.getfield 24, 3) := by decide +kernel
theorem dX5_become_64 : decode cX5_become 64 = .ok (.iconst 0, 1) := by decide +kernel
theorem dX5_become_65 : decode cX5_become 65 = .ok (.aload_n 0, 1) := by decide +kernel
theorem dX5_become_66 : decode cX5_become 66 = .ok (.getfield 24, 3) := by decide +kernel
theorem dX5_become_69 : decode cX5_become 69 = .ok (.iconst 0, 1) := by decide +kernel
theorem dX5_become_70 : decode cX5_become 70 = .ok (.bipush 8, 2) := by decide +kernel
theorem dX5_become_72 : decode cX5_become 72 = .ok (.invokestatic 56, 3) := by decide +kernel
theorem dX5_become_75 : decode cX5_become 75 = .ok (.aload_n 0, 1) := by decide +kernel
theorem dX5_become_76 : decode cX5_become 76 = .ok (.aload_n 1, 1) := by decide +kernel
theorem dX5_become_77 : decode cX5_become 77 = .ok (.getfield 62, 3) := by decide +kernel
theorem dX5_become_80 : decode cX5_become 80 = .ok (.putfield 62, 3) := by decide +kernel
theorem dX5_become_83 : decode cX5_become 83 = .ok (.aload_n 1, 1) := by decide +kernel
theorem dX5_become_84 : decode cX5_become 84 = .ok (.getfield 27, 3) := by decide +kernel
theorem dX5_become_87 : decode cX5_become 87 = .ok (.iconst 0, 1) := by decide +kernel
theorem dX5_become_88 : decode cX5_become 88 = .ok (.aload_n 0, 1) := by decide +kernel
theorem dX5_become_89 : decode cX5_become 89 = .ok (.getfield 27, 3) := by decide +kernel
theorem dX5_become_92 : decode cX5_become 92 = .ok (.iconst 0, 1) := by decide +kernel
theorem dX5_become_93 : decode cX5_become 93 = .ok (.bipush 12, 2) := by decide +kernel
theorem dX5_become_95 : decode cX5_become 95 = .ok (.invokestatic 56, 3) := by decide +kernel
theorem dX5_become_98 : decode cX5_become 98 = .ok (.aload_n 1, 1) := by decide +kernel
theorem dX5_become_99 : decode cX5_become 99 = .ok (.getfield 30, 3) := by decide +kernel
theorem dX5_become_102 : decode cX5_become 102 = .ok (.iconst 0, 1) := by decide +kernel
theorem dX5_become_103 : decode cX5_become 103 = .ok (.aload_n 0, 1) := by decide +kernel
theorem dX5_become_104 : decode cX5_become 104 = .ok (.getfield 30, 3) := by decide +kernel
theorem dX5_become_107 : decode cX5_become 107 = .ok (.iconst 0, 1) := by decide +kernel
theorem dX5_become_108 : decode cX5_become 108 = .ok (.bipush 12, 2) := by decide +kernel
theorem dX5_become_110 : decode cX5_become 110 = .ok (.invokestatic 56, 3) := by decide +kernel
theorem dX5_become_113 : decode cX5_become 113 = .ok (.aload_n 1, 1) := by decide +kernel
theorem dX5_become_114 : decode cX5_become 114 = .ok (.getfield 33, 3) := by decide +kernel
theorem dX5_become_117 : decode cX5_become 117 = .ok (.iconst 0, 1) := by decide +kernel
theorem dX5_become_118 : decode cX5_become 118 = .ok (.aload_n 0, 1) := by decide +kernel
theorem dX5_become_119 : decode cX5_become 119 = .ok (.getfield 33, 3) := by decide +kernel
theorem dX5_become_122 : decode cX5_become 122 = .ok (.iconst 0, 1) := by decide +kernel
theorem dX5_become_123 : decode cX5_become 123 = .ok (.bipush 12, 2) := by decide +kernel
theorem dX5_become_125 : decode cX5_become 125 = .ok (.invokestatic 56, 3) := by decide +kernel
theorem dX5_become_128 : decode cX5_become 128 = .ok (.aload_n 1, 1) := by decide +kernel
theorem dX5_become_129 : decode cX5_become 129 = .ok (.getfield 36, 3) := by decide +kernel
theorem dX5_become_132 : decode cX5_become 132 = .ok (.iconst 0, 1) := by decide +kernel
theorem dX5_become_133 : decode cX5_become 133 = .ok (.aload_n 0, 1) := by decide +kernel
theorem dX5_become_134 : decode cX5_become 134 = .ok (.getfield 36, 3) := by decide +kernel
theorem dX5_become_137 : decode cX5_become 137 = .ok (.iconst 0, 1) := by decide +kernel
theorem dX5_become_138 : decode cX5_become 138 = .ok (.bipush 12, 2) := by decide +kernel
theorem dX5_become_140 : decode cX5_become 140 = .ok (.invokestatic 56, 3) := by decide +kernel
theorem dX5_become_143 : decode cX5_become 143 = .ok (.aload_n 0, 1) := by decide +kernel
theorem dX5_become_144 : decode cX5_become 144 = .ok (.aload_n 1, 1) := by decide +kernel
theorem dX5_become_145 : decode cX5_become 145 = .ok (.getfield 65, 3) := by decide +kernel
theorem dX5_become_148 : decode cX5_become 148 = .ok (.putfield 65, 3) := by decide +kernel
theorem dX5_become_151 : decode cX5_become 151 = .ok (.aload_n 0, 1) := by decide +kernel
theorem dX5_become_152 : decode cX5_become 152 = .ok (.aload_n 1, 1) := by decide +kernel
theorem dX5_become_153 : decode cX5_become 153 = .ok (.getfield 68, 3) := by decide +kernel
theorem dX5_become_156 : decode cX5_become 156 = .ok (.putfield 68, 3) := by decide +kernel
theorem dX5_become_159 : decode cX5_become 159 = .ok (.aload_n 0, 1) := by decide +kernel
theorem dX5_become_160 : decode cX5_become 160 = .ok (.aload_n 1, 1) := by decide +kernel
theorem dX5_become_161 : decode cX5_become 161 = .ok (.getfield 71, 3) := by decide +kernel
theorem dX5_become_164 : decode cX5_become 164 = .ok (.putfield 71, 3) := by decide +kernel
theorem dX5_become_167 : decode cX5_become 167 = .ok (.aload_n 0, 1) := by decide +kernel
theorem dX5_become_168 : decode cX5_become 168 = .ok (.aload_n 1, 1) := by decide +kernel
theorem dX5_become_169 : decode cX5_become 169 = .ok (.getfield 74, 3) := by decide +kernel
theorem dX5_become_172 : decode cX5_become 172 = .ok (.putfield 74, 3) := by decide +kernel
theorem dX5_become_175 : decode cX5_become 175 = .ok (.aload_n 0, 1) := by decide +kernel
theorem dX5_become_176 : decode cX5_become 176 = .ok (.aload_n 1, 1) := by decide +kernel
theorem dX5_become_177 : decode cX5_become 177 = .ok (.getfield 39, 3) := by decide +kernel
theorem dX5_become_180 : decode cX5_become 180 = .ok (.putfield 39, 3) := by decide +kernel
theorem dX5_become_183 : decode cX5_become 183 = .ok (.aload_n 0, 1) := by decide +kernel
theorem dX5_become_184 : decode cX5_become 184 = .ok (.aload_n 1, 1) := by decide +kernel
theorem dX5_become_185 : decode cX5_become 185 = .ok (.getfield 77, 3) := by decide +kernel
theorem dX5_become_188 : decode cX5_become 188 = .ok (.putfield 77, 3) := by decide +kernel
theorem dX5_become_191 : decode cX5_become 191 = .ok (.aload_n 1, 1) := by decide +kernel
theorem dX5_become_192 : decode cX5_become 192 = .ok (.getfield 43, 3) := by decide +kernel
theorem dX5_become_195 : decode cX5_become 195 = .ok (.iconst 0, 1) := by decide +kernel
theorem dX5_become_196 : decode cX5_become 196 = .ok (.aload_n 0, 1) := by decide +kernel
theorem dX5_become_197 : decode cX5_become 197 = .ok (.getfield 43, 3) := by decide +kernel
theorem dX5_become_200 : decode cX5_become 200 = .ok (.iconst 0, 1) := by decide +kernel
theorem dX5_become_201 : decode cX5_become 201 = .ok (.iconst 3, 1) := by decide +kernel
theorem dX5_become_202 : decode cX5_become 202 = .ok (.invokestatic 56, 3) := by decide +kernel
theorem dX5_become_205 : decode cX5_become 205 = .ok (.return_, 1) := by decide +kernel
theorem dX5_hasCellar_0 : decode cX5_hasCellar 0 = .ok (.iload_n 1, 1) := by decide +kernel
theorem dX5_hasCellar_1 : decode cX5_hasCellar 1 = .ok (.ifCond .lt 15, 3) := by decide +kernel
theorem dX5_hasCellar_4 : decode cX5_hasCellar 4 = .ok (.iload_n 1, 1) := by decide +kernel
theorem dX5_hasCellar_5 : decode cX5_hasCellar 5 = .ok (.aload_n 0, 1) := by decide +kernel
theorem dX5_hasCellar_6 : decode cX5_hasCellar 6 = .ok (.getfield 62, 3) := by decide +kernel
theorem dX5_hasCellar_9 : decode cX5_hasCellar 9 = .ok (.if_icmp .ge 7, 3) := by decide +kernel
theorem dX5_hasCellar_12 : decode cX5_hasCellar 12 = .ok (.iconst 1, 1) := by decide +kernel
theorem dX5_hasCellar_13 : decode cX5_hasCellar 13 = .ok (.goto 4, 3) := by decide +kernel
theorem dX5_hasCellar_16 : decode cX5_hasCellar 16 = .ok (.iconst 0, 1) := by decide +kernel
theorem dX5_hasCellar_17 : decode cX5_hasCellar 17 = .ok (.ireturn, 1) := by decide +kernel
theorem dX5_hasPipe_0 : decode cX5_hasPipe 0 = .ok (.iload_n 1, 1) := by decide +kernel
theorem dX5_hasPipe_1 : decode cX5_hasPipe 1 = .ok (.ifCond .lt 15, 3) := by decide +kernel
theorem dX5_hasPipe_4 : decode cX5_hasPipe 4 = .ok (.iload_n 1, 1) := by decide +kernel
theorem dX5_hasPipe_5 : decode cX5_hasPipe 5 = .ok (.aload_n 0, 1) := by decide +kernel
theorem dX5_hasPipe_6 : decode cX5_hasPipe 6 = .ok (.getfield 65, 3) := by decide +kernel
theorem dX5_hasPipe_9 : decode cX5_hasPipe 9 = .ok (.if_icmp .ge 7, 3) := by decide +kernel
theorem dX5_hasPipe_12 : decode cX5_hasPipe 12 = .ok (.iconst 1, 1) := by decide +kernel
theorem dX5_hasPipe_13 : decode cX5_hasPipe 13 = .ok (.goto 4, 3) := by decide +kernel
theorem dX5_hasPipe_16 : decode cX5_hasPipe 16 = .ok (.iconst 0, 1) := by decide +kernel
theorem dX5_hasPipe_17 : decode cX5_hasPipe 17 = .ok (.ireturn, 1) := by decide +kernel
theorem dX5_addCellar_0 : decode cX5_addCellar 0 = .ok (.aload_n 0, 1) := by decide +kernel
theorem dX5_addCellar_1 : decode cX5_addCellar 1 = .ok (.getfield 62, 3) := by decide +kernel
theorem dX5_addCellar_4 : decode cX5_addCellar 4 = .ok (.istore 4, 2) := by decide +kernel
theorem dX5_addCellar_6 : decode cX5_addCellar 6 = .ok (.aload_n 0, 1) := by decide +kernel
theorem dX5_addCellar_7 : decode cX5_addCellar 7 = .ok (.dup, 1) := by decide +kernel
theorem dX5_addCellar_8 : decode cX5_addCellar 8 = .ok (.getfield 62, 3) := by decide +kernel
theorem dX5_addCellar_11 : decode cX5_addCellar 11 = .ok (.iconst 1, 1) := by decide +kernel
theorem dX5_addCellar_12 : decode cX5_addCellar 12 = .ok (.iadd, 1) := by decide +kernel
theorem dX5_addCellar_13 : decode cX5_addCellar 13 = .ok (.putfield 62, 3) := by decide +kernel
theorem dX5_addCellar_16 : decode cX5_addCellar 16 = .ok (.aload_n 0, 1) := by decide +kernel
theorem dX5_addCellar_17 : decode cX5_addCellar 17 = .ok (.getfield 9, 3) := by decide +kernel
theorem dX5_addCellar_20 : decode cX5_addCellar 20 = .ok (.iload 4, 2) := by decide +kernel
theorem dX5_addCellar_22 : decode cX5_addCellar 22 = .ok (.iload_n 1, 1) := by decide +kernel
theorem dX5_addCellar_23 : decode cX5_addCellar 23 = .ok (.iastore, 1) := by decide +kernel
theorem dX5_addCellar_24 : decode cX5_addCellar 24 = .ok (.aload_n 0, 1) := by decide +kernel
theorem dX5_addCellar_25 : decode cX5_addCellar 25 = .ok (.getfield 15, 3) := by decide +kernel
theorem dX5_addCellar_28 : decode cX5_addCellar 28 = .ok (.iload 4, 2) := by decide +kernel
theorem dX5_addCellar_30 : decode cX5_addCellar 30 = .ok (.iload_n 2, 1) := by decide +kernel
theorem dX5_addCellar_31 : decode cX5_addCellar 31 = .ok (.iastore, 1) := by decide +kernel
theorem dX5_addCellar_32 : decode cX5_addCellar 32 = .ok (.aload_n 0, 1) := by decide +kernel
theorem dX5_addCellar_33 : decode cX5_addCellar 33 = .ok (.getfield 18, 3) := by decide +kernel
theorem dX5_addCellar_36 : decode cX5_addCellar 36 = .ok (.iload 4, 2) := by decide +kernel
theorem dX5_addCellar_38 : decode cX5_addCellar 38 = .ok (.iload_n 3, 1) := by decide +kernel
theorem dX5_addCellar_39 : decode cX5_addCellar 39 = .ok (.iastore, 1) := by decide +kernel
theorem dX5_addCellar_40 : decode cX5_addCellar 40 = .ok (.aload_n 0, 1) := by decide +kernel
theorem dX5_addCellar_41 : decode cX5_addCellar 41 = .ok (.iload 4, 2) := by decide +kernel
theorem dX5_addCellar_43 : decode cX5_addCellar 43 = .ok (.invokevirtual 82, 3) := by decide +kernel
theorem dX5_addCellar_46 : decode cX5_addCellar 46 = .ok (.iload 4, 2) := by decide +kernel
theorem dX5_addCellar_48 : decode cX5_addCellar 48 = .ok (.ireturn, 1) := by decide +kernel
theorem dX5_addPipe_0 : decode cX5_addPipe 0 = .ok (.aload_n 0, 1) := by decide +kernel
theorem dX5_addPipe_1 : decode cX5_addPipe 1 = .ok (.getfield 65, 3) := by decide +kernel
theorem dX5_addPipe_4 : decode cX5_addPipe 4 = .ok (.istore 4, 2) := by decide +kernel
theorem dX5_addPipe_6 : decode cX5_addPipe 6 = .ok (.aload_n 0, 1) := by decide +kernel
theorem dX5_addPipe_7 : decode cX5_addPipe 7 = .ok (.dup, 1) := by decide +kernel
theorem dX5_addPipe_8 : decode cX5_addPipe 8 = .ok (.getfield 65, 3) := by decide +kernel
theorem dX5_addPipe_11 : decode cX5_addPipe 11 = .ok (.iconst 1, 1) := by decide +kernel
theorem dX5_addPipe_12 : decode cX5_addPipe 12 = .ok (.iadd, 1) := by decide +kernel
theorem dX5_addPipe_13 : decode cX5_addPipe 13 = .ok (.putfield 65, 3) := by decide +kernel
theorem dX5_addPipe_16 : decode cX5_addPipe 16 = .ok (.aload_n 0, 1) := by decide +kernel
theorem dX5_addPipe_17 : decode cX5_addPipe 17 = .ok (.getfield 27, 3) := by decide +kernel
theorem dX5_addPipe_20 : decode cX5_addPipe 20 = .ok (.iload 4, 2) := by decide +kernel
theorem dX5_addPipe_22 : decode cX5_addPipe 22 = .ok (.iload_n 1, 1) := by decide +kernel
theorem dX5_addPipe_23 : decode cX5_addPipe 23 = .ok (.iastore, 1) := by decide +kernel
theorem dX5_addPipe_24 : decode cX5_addPipe 24 = .ok (.aload_n 0, 1) := by decide +kernel
theorem dX5_addPipe_25 : decode cX5_addPipe 25 = .ok (.getfield 30, 3) := by decide +kernel
theorem dX5_addPipe_28 : decode cX5_addPipe 28 = .ok (.iload 4, 2) := by decide +kernel
theorem dX5_addPipe_30 : decode cX5_addPipe 30 = .ok (.iload_n 2, 1) := by decide +kernel
theorem dX5_addPipe_31 : decode cX5_addPipe 31 = .ok (.iastore, 1) := by decide +kernel
theorem dX5_addPipe_32 : decode cX5_addPipe 32 = .ok (.aload_n 0, 1) := by decide +kernel
theorem dX5_addPipe_33 : decode cX5_addPipe 33 = .ok (.getfield 33, 3) := by decide +kernel
theorem dX5_addPipe_36 : decode cX5_addPipe 36 = .ok (.iload 4, 2) := by decide +kernel
theorem dX5_addPipe_38 : decode cX5_addPipe 38 = .ok (.iload_n 3, 1) := by decide +kernel
theorem dX5_addPipe_39 : decode cX5_addPipe 39 = .ok (.iastore, 1) := by decide +kernel
theorem dX5_addPipe_40 : decode cX5_addPipe 40 = .ok (.aload_n 0, 1) := by decide +kernel
theorem dX5_addPipe_41 : decode cX5_addPipe 41 = .ok (.getfield 36, 3) := by decide +kernel
theorem dX5_addPipe_44 : decode cX5_addPipe 44 = .ok (.iload 4, 2) := by decide +kernel
theorem dX5_addPipe_46 : decode cX5_addPipe 46 = .ok (.iconst 0, 1) := by decide +kernel
theorem dX5_addPipe_47 : decode cX5_addPipe 47 = .ok (.iastore, 1) := by decide +kernel
theorem dX5_addPipe_48 : decode cX5_addPipe 48 = .ok (.iload 4, 2) := by decide +kernel
theorem dX5_addPipe_50 : decode cX5_addPipe 50 = .ok (.ireturn, 1) := by decide +kernel
theorem dX5_addText_0 : decode cX5_addText 0 = .ok (.aload_n 0, 1) := by decide +kernel
theorem dX5_addText_1 : decode cX5_addText 1 = .ok (.getfield 43, 3) := by decide +kernel
theorem dX5_addText_4 : decode cX5_addText 4 = .ok (.iload_n 1, 1) := by decide +kernel
theorem dX5_addText_5 : decode cX5_addText 5 = .ok (.aload_n 0, 1) := by decide +kernel
theorem dX5_addText_6 : decode cX5_addText 6 = .ok (.getfield 77, 3) := by decide +kernel
theorem dX5_addText_9 : decode cX5_addText 9 = .ok (.iastore, 1) := by decide +kernel
theorem dX5_addText_10 : decode cX5_addText 10 = .ok (.aload_n 0, 1) := by decide +kernel
theorem dX5_addText_11 : decode cX5_addText 11 = .ok (.dup, 1) := by decide +kernel
theorem dX5_addText_12 : decode cX5_addText 12 = .ok (.getfield 77, 3) := by decide +kernel
theorem dX5_addText_15 : decode cX5_addText 15 = .ok (.iconst 1, 1) := by decide +kernel
theorem dX5_addText_16 : decode cX5_addText 16 = .ok (.iadd, 1) := by decide +kernel
theorem dX5_addText_17 : decode cX5_addText 17 = .ok (.putfield 77, 3) := by decide +kernel
theorem dX5_addText_20 : decode cX5_addText 20 = .ok (.iload_n 1, 1) := by decide +kernel
theorem dX5_addText_21 : decode cX5_addText 21 = .ok (.ifCond .ne 24, 3) := by decide +kernel
theorem dX5_addText_24 : decode cX5_addText 24 = .ok (.iconst 0, 1) := by decide +kernel
theorem dX5_addText_25 : decode cX5_addText 25 = .ok (.istore_n 2, 1) := by decide +kernel
theorem dX5_addText_26 : decode cX5_addText 26 = .ok (.iload_n 2, 1) := by decide +kernel
theorem dX5_addText_27 : decode cX5_addText 27 = .ok (.aload_n 0, 1) := by decide +kernel
theorem dX5_addText_28 : decode cX5_addText 28 = .ok (.getfield 62, 3) := by decide +kernel
theorem dX5_addText_31 : decode cX5_addText 31 = .ok (.if_icmp .ge 14, 3) := by decide +kernel
theorem dX5_addText_34 : decode cX5_addText 34 = .ok (.aload_n 0, 1) := by decide +kernel
theorem dX5_addText_35 : decode cX5_addText 35 = .ok (.iload_n 2, 1) := by decide +kernel
theorem dX5_addText_36 : decode cX5_addText 36 = .ok (.invokevirtual 86, 3) := by decide +kernel
theorem dX5_addText_39 : decode cX5_addText 39 = .ok (.iinc 2 1, 3) := by decide +kernel
theorem dX5_addText_42 : decode cX5_addText 42 = .ok (.goto (-16), 3) := by decide +kernel
theorem dX5_addText_45 : decode cX5_addText 45 = .ok (.return_, 1) := by decide +kernel
theorem dX5_empty_0 : decode cX5_empty 0 = .ok (.iconst 0, 1) := by decide +kernel
theorem dX5_empty_1 : decode cX5_empty 1 = .ok (.istore_n 2, 1) := by decide +kernel
theorem dX5_empty_2 : decode cX5_empty 2 = .ok (.iload_n 2, 1) := by decide +kernel
theorem dX5_empty_3 : decode cX5_empty 3 = .ok (.iconst 3, 1) := by decide +kernel
theorem dX5_empty_4 : decode cX5_empty 4 = .ok (.if_icmp .ge 20, 3) := by decide +kernel
theorem dX5_empty_7 : decode cX5_empty 7 = .ok (.aload_n 0, 1) := by decide +kernel
theorem dX5_empty_8 : decode cX5_empty 8 = .ok (.getfield 21, 3) := by decide +kernel
theorem dX5_empty_11 : decode cX5_empty 11 = .ok (.iload_n 1, 1) := by decide +kernel
theorem dX5_empty_12 : decode cX5_empty 12 = .ok (.iconst 3, 1) := by decide +kernel
theorem dX5_empty_13 : decode cX5_empty 13 = .ok (.imul, 1) := by decide +kernel
theorem dX5_empty_14 : decode cX5_empty 14 = .ok (.iload_n 2, 1) := by decide +kernel
theorem dX5_empty_15 : decode cX5_empty 15 = .ok (.iadd, 1) := by decide +kernel
theorem dX5_empty_16 : decode cX5_empty 16 = .ok (.iconst 0, 1) := by decide +kernel
theorem dX5_empty_17 : decode cX5_empty 17 = .ok (.iastore, 1) := by decide +kernel
theorem dX5_empty_18 : decode cX5_empty 18 = .ok (.iinc 2 1, 3) := by decide +kernel
theorem dX5_empty_21 : decode cX5_empty 21 = .ok (.goto (-19), 3) := by decide +kernel
theorem dX5_empty_24 : decode cX5_empty 24 = .ok (.aload_n 0, 1) := by decide +kernel
theorem dX5_empty_25 : decode cX5_empty 25 = .ok (.iload_n 1, 1) := by decide +kernel
theorem dX5_empty_26 : decode cX5_empty 26 = .ok (.invokevirtual 86, 3) := by decide +kernel
theorem dX5_empty_29 : decode cX5_empty 29 = .ok (.return_, 1) := by decide +kernel
theorem dX5_fullOf_0 : decode cX5_fullOf 0 = .ok (.iload_n 1, 1) := by decide +kernel
theorem dX5_fullOf_1 : decode cX5_fullOf 1 = .ok (.iconst 3, 1) := by decide +kernel
theorem dX5_fullOf_2 : decode cX5_fullOf 2 = .ok (.imul, 1) := by decide +kernel
theorem dX5_fullOf_3 : decode cX5_fullOf 3 = .ok (.istore_n 2, 1) := by decide +kernel
theorem dX5_fullOf_4 : decode cX5_fullOf 4 = .ok (.aload_n 0, 1) := by decide +kernel
theorem dX5_fullOf_5 : decode cX5_fullOf 5 = .ok (.getfield 21, 3) := by decide +kernel
theorem dX5_fullOf_8 : decode cX5_fullOf 8 = .ok (.iload_n 2, 1) := by decide +kernel
theorem dX5_fullOf_9 : decode cX5_fullOf 9 = .ok (.iaload, 1) := by decide +kernel
theorem dX5_fullOf_10 : decode cX5_fullOf 10 = .ok (.aload_n 0, 1) := by decide +kernel
theorem dX5_fullOf_11 : decode cX5_fullOf 11 = .ok (.getfield 21, 3) := by decide +kernel
theorem dX5_fullOf_14 : decode cX5_fullOf 14 = .ok (.iload_n 2, 1) := by decide +kernel
theorem dX5_fullOf_15 : decode cX5_fullOf 15 = .ok (.iconst 1, 1) := by decide +kernel
theorem dX5_fullOf_16 : decode cX5_fullOf 16 = .ok (.iadd, 1) := by decide +kernel
theorem dX5_fullOf_17 : decode cX5_fullOf 17 = .ok (.iaload, 1) := by decide +kernel
theorem dX5_fullOf_18 : decode cX5_fullOf 18 = .ok (.iadd, 1) := by decide +kernel
theorem dX5_fullOf_19 : decode cX5_fullOf 19 = .ok (.aload_n 0, 1) := by decide +kernel
theorem dX5_fullOf_20 : decode cX5_fullOf 20 = .ok (.getfield 21, 3) := by decide +kernel
theorem dX5_fullOf_23 : decode cX5_fullOf 23 = .ok (.iload_n 2, 1) := by decide +kernel
theorem dX5_fullOf_24 : decode cX5_fullOf 24 = .ok (.iconst 2, 1) := by decide +kernel
theorem dX5_fullOf_25 : decode cX5_fullOf 25 = .ok (.iadd, 1) := by decide +kernel
theorem dX5_fullOf_26 : decode cX5_fullOf 26 = .ok (.iaload, 1) := by decide +kernel
theorem dX5_fullOf_27 : decode cX5_fullOf 27 = .ok (.iadd, 1) := by decide +kernel
theorem dX5_fullOf_28 : decode cX5_fullOf 28 = .ok (.ireturn, 1) := by decide +kernel
theorem dX5_fullOfAll_0 : decode cX5_fullOfAll 0 = .ok (.iconst 0, 1) := by decide +kernel
theorem dX5_fullOfAll_1 : decode cX5_fullOfAll 1 = .ok (.istore_n 1, 1) := by decide +kernel
theorem dX5_fullOfAll_2 : decode cX5_fullOfAll 2 = .ok (.iconst 0, 1) := by decide +kernel
theorem dX5_fullOfAll_3 : decode cX5_fullOfAll 3 = .ok (.istore_n 2, 1) := by decide +kernel
theorem dX5_fullOfAll_4 : decode cX5_fullOfAll 4 = .ok (.iload_n 2, 1) := by decide +kernel
theorem dX5_fullOfAll_5 : decode cX5_fullOfAll 5 = .ok (.aload_n 0, 1) := by decide +kernel
theorem dX5_fullOfAll_6 : decode cX5_fullOfAll 6 = .ok (.getfield 62, 3) := by decide +kernel
theorem dX5_fullOfAll_9 : decode cX5_fullOfAll 9 = .ok (.if_icmp .ge 17, 3) := by decide +kernel
theorem dX5_fullOfAll_12 : decode cX5_fullOfAll 12 = .ok (.iload_n 1, 1) := by decide +kernel
theorem dX5_fullOfAll_13 : decode cX5_fullOfAll 13 = .ok (.aload_n 0, 1) := by decide +kernel
theorem dX5_fullOfAll_14 : decode cX5_fullOfAll 14 = .ok (.iload_n 2, 1) := by decide +kernel
theorem dX5_fullOfAll_15 : decode cX5_fullOfAll 15 = .ok (.invokevirtual 89, 3) := by decide +kernel
theorem dX5_fullOfAll_18 : decode cX5_fullOfAll 18 = .ok (.iadd, 1) := by decide +kernel
theorem dX5_fullOfAll_19 : decode cX5_fullOfAll 19 = .ok (.istore_n 1, 1) := by decide +kernel
theorem dX5_fullOfAll_20 : decode cX5_fullOfAll 20 = .ok (.iinc 2 1, 3) := by decide +kernel
theorem dX5_fullOfAll_23 : decode cX5_fullOfAll 23 = .ok (.goto (-19), 3) := by decide +kernel
theorem dX5_fullOfAll_26 : decode cX5_fullOfAll 26 = .ok (.iload_n 1, 1) := by decide +kernel
theorem dX5_fullOfAll_27 : decode cX5_fullOfAll 27 = .ok (.ireturn, 1) := by decide +kernel
theorem dX5_levelOf_0 : decode cX5_levelOf 0 = .ok (.aload_n 0, 1) := by decide +kernel
theorem dX5_levelOf_1 : decode cX5_levelOf 1 = .ok (.getfield 15, 3) := by decide +kernel
theorem dX5_levelOf_4 : decode cX5_levelOf 4 = .ok (.iload_n 1, 1) := by decide +kernel
theorem dX5_levelOf_5 : decode cX5_levelOf 5 = .ok (.iaload, 1) := by decide +kernel
theorem dX5_levelOf_6 : decode cX5_levelOf 6 = .ok (.aload_n 0, 1) := by decide +kernel
theorem dX5_levelOf_7 : decode cX5_levelOf 7 = .ok (.getfield 24, 3) := by decide +kernel
theorem dX5_levelOf_10 : decode cX5_levelOf 10 = .ok (.iload_n 1, 1) := by decide +kernel
theorem dX5_levelOf_11 : decode cX5_levelOf 11 = .ok (.iaload, 1) := by decide +kernel
theorem dX5_levelOf_12 : decode cX5_levelOf 12 = .ok (.iadd, 1) := by decide +kernel
theorem dX5_levelOf_13 : decode cX5_levelOf 13 = .ok (.ireturn, 1) := by decide +kernel
theorem dX5_refresh_0 : decode cX5_refresh 0 = .ok (.aload_n 0, 1) := by decide +kernel
theorem dX5_refresh_1 : decode cX5_refresh 1 = .ok (.iload_n 1, 1) := by decide +kernel
theorem dX5_refresh_2 : decode cX5_refresh 2 = .ok (.invokevirtual 89, 3) := by decide +kernel
theorem dX5_refresh_5 : decode cX5_refresh 5 = .ok (.istore_n 2, 1) := by decide +kernel
theorem dX5_refresh_6 : decode cX5_refresh 6 = .ok (.aload_n 0, 1) := by decide +kernel
theorem dX5_refresh_7 : decode cX5_refresh 7 = .ok (.getfield 43, 3) := by decide +kernel
theorem dX5_refresh_10 : decode cX5_refresh 10 = .ok (.iconst 0, 1) := by decide +kernel
theorem dX5_refresh_11 : decode cX5_refresh 11 = .ok (.iaload, 1) := by decide +kernel
theorem dX5_refresh_12 : decode cX5_refresh 12 = .ok (.istore_n 3, 1) := by decide +kernel
theorem dX5_refresh_13 : decode cX5_refresh 13 = .ok (.iload_n 3, 1) := by decide +kernel
theorem dX5_refresh_14 : decode cX5_refresh 14 = .ok (.ifCond .ge 10, 3) := by decide +kernel
theorem dX5_refresh_17 : decode cX5_refresh 17 = .ok (.iload_n 2, 1) := by decide +kernel
theorem dX5_refresh_18 : decode cX5_refresh 18 = .ok (.bipush 10, 2) := by decide +kernel
theorem dX5_refresh_20 : decode cX5_refresh 20 = .ok (.idiv, 1) := by decide +kernel
theorem dX5_refresh_21 : decode cX5_refresh 21 = .ok (.goto 31, 3) := by decide +kernel
theorem dX5_refresh_24 : decode cX5_refresh 24 = .ok (.aload_n 0, 1) := by decide +kernel
theorem dX5_refresh_25 : decode cX5_refresh 25 = .ok (.getfield 49, 3) := by decide +kernel
theorem dX5_refresh_28 : decode cX5_refresh 28 = .ok (.iload_n 3, 1) := by decide +kernel
theorem dX5_refresh_29 : decode cX5_refresh 29 = .ok (.aaload, 1) := by decide +kernel
theorem dX5_refresh_30 : decode cX5_refresh 30 = .ok (.iload_n 2, 1) := by decide +kernel
theorem dX5_refresh_31 : decode cX5_refresh 31 = .ok (.aload_n 0, 1) := by decide +kernel
theorem dX5_refresh_32 : decode cX5_refresh 32 = .ok (.getfield 18, 3) := by decide +kernel
theorem dX5_refresh_35 : decode cX5_refresh 35 = .ok (.iload_n 1, 1) := by decide +kernel
theorem dX5_refresh_36 : decode cX5_refresh 36 = .ok (.iaload, 1) := by decide +kernel
theorem dX5_refresh_37 : decode cX5_refresh 37 = .ok (.aload_n 0, 1) := by decide +kernel
theorem dX5_refresh_38 : decode cX5_refresh 38 = .ok (.getfield 21, 3) := by decide +kernel
theorem dX5_refresh_41 : decode cX5_refresh 41 = .ok (.iload_n 1, 1) := by decide +kernel
theorem dX5_refresh_42 : decode cX5_refresh 42 = .ok (.iconst 3, 1) := by decide +kernel
theorem dX5_refresh_43 : decode cX5_refresh 43 = .ok (.imul, 1) := by decide +kernel
theorem dX5_refresh_44 : decode cX5_refresh 44 = .ok (.iaload, 1) := by decide +kernel
theorem dX5_refresh_45 : decode cX5_refresh 45 = .ok (.aload_n 0, 1) := by decide +kernel
theorem dX5_refresh_46 : decode cX5_refresh 46 = .ok (.getfield 53, 3) := by decide +kernel
theorem dX5_refresh_49 : decode cX5_refresh 49 = .ok (.invokevirtual 93, 3) := by decide +kernel
theorem dX5_refresh_52 : decode cX5_refresh 52 = .ok (.istore 4, 2) := by decide +kernel
theorem dX5_refresh_54 : decode cX5_refresh 54 = .ok (.aload_n 0, 1) := by decide +kernel
theorem dX5_refresh_55 : decode cX5_refresh 55 = .ok (.getfield 24, 3) := by decide +kernel
theorem dX5_refresh_58 : decode cX5_refresh 58 = .ok (.iload_n 1, 1) := by decide +kernel
theorem dX5_refresh_59 : decode cX5_refresh 59 = .ok (.aload_n 0, 1) := by decide +kernel
theorem dX5_refresh_60 : decode cX5_refresh 60 = .ok (.getfield 9, 3) := by decide +kernel
theorem dX5_refresh_63 : decode cX5_refresh 63 = .ok (.iload_n 1, 1) := by decide +kernel
theorem dX5_refresh_64 : decode cX5_refresh 64 = .ok (.iaload, 1) := by decide +kernel
theorem dX5_refresh_65 : decode cX5_refresh 65 = .ok (.iconst 0, 1) := by decide +kernel
theorem dX5_refresh_66 : decode cX5_refresh 66 = .ok (.sipush 999, 3) := by decide +kernel
theorem dX5_refresh_69 : decode cX5_refresh 69 = .ok (.iload 4, 2) := by decide +kernel
theorem dX5_refresh_71 : decode cX5_refresh 71 = .ok (.invokestatic 97, 3) := by decide +kernel
theorem dX5_refresh_74 : decode cX5_refresh 74 = .ok (.invokestatic 103, 3) := by decide +kernel
theorem dX5_refresh_77 : decode cX5_refresh 77 = .ok (.iload_n 2, 1) := by decide +kernel
theorem dX5_refresh_78 : decode cX5_refresh 78 = .ok (.invokestatic 106, 3) := by decide +kernel
theorem dX5_refresh_81 : decode cX5_refresh 81 = .ok (.iastore, 1) := by decide +kernel
theorem dX5_refresh_82 : decode cX5_refresh 82 = .ok (.return_, 1) := by decide +kernel
theorem dX5_upperOf_0 : decode cX5_upperOf 0 = .ok (.aload_n 0, 1) := by decide +kernel
theorem dX5_upperOf_1 : decode cX5_upperOf 1 = .ok (.aload_n 0, 1) := by decide +kernel
theorem dX5_upperOf_2 : decode cX5_upperOf 2 = .ok (.getfield 27, 3) := by decide +kernel
theorem dX5_upperOf_5 : decode cX5_upperOf 5 = .ok (.iload_n 1, 1) := by decide +kernel
theorem dX5_upperOf_6 : decode cX5_upperOf 6 = .ok (.iaload, 1) := by decide +kernel
theorem dX5_upperOf_7 : decode cX5_upperOf 7 = .ok (.invokevirtual 111, 3) := by decide +kernel
theorem dX5_upperOf_10 : decode cX5_upperOf 10 = .ok (.aload_n 0, 1) := by decide +kernel
theorem dX5_upperOf_11 : decode cX5_upperOf 11 = .ok (.aload_n 0, 1) := by decide +kernel
theorem dX5_upperOf_12 : decode cX5_upperOf 12 = .ok (.getfield 30, 3) := by decide +kernel
theorem dX5_upperOf_15 : decode cX5_upperOf 15 = .ok (.iload_n 1, 1) := by decide +kernel
theorem dX5_upperOf_16 : decode cX5_upperOf 16 = .ok (.iaload, 1) := by decide +kernel
theorem dX5_upperOf_17 : decode cX5_upperOf 17 = .ok (.invokevirtual 111, 3) := by decide +kernel
theorem dX5_upperOf_20 : decode cX5_upperOf 20 = .ok (.if_icmp .lt 12, 3) := by decide +kernel
theorem dX5_upperOf_23 : decode cX5_upperOf 23 = .ok (.aload_n 0, 1) := by decide +kernel
theorem dX5_upperOf_24 : decode cX5_upperOf 24 = .ok (.getfield 27, 3) := by decide +kernel
theorem dX5_upperOf_27 : decode cX5_upperOf 27 = .ok (.iload_n 1, 1) := by decide +kernel
theorem dX5_upperOf_28 : decode cX5_upperOf 28 = .ok (.iaload, 1) := by decide +kernel
theorem dX5_upperOf_29 : decode cX5_upperOf 29 = .ok (.goto 9, 3) := by decide +kernel
theorem dX5_upperOf_32 : decode cX5_upperOf 32 = .ok (.aload_n 0, 1) := by decide +kernel
theorem dX5_upperOf_33 : decode cX5_upperOf 33 = .ok (.getfield 30, 3) := by decide +kernel
theorem dX5_upperOf_36 : decode cX5_upperOf 36 = .ok (.iload_n 1, 1) := by decide +kernel
theorem dX5_upperOf_37 : decode cX5_upperOf 37 = .ok (.iaload, 1) := by decide +kernel
theorem dX5_upperOf_38 : decode cX5_upperOf 38 = .ok (.ireturn, 1) := by decide +kernel
theorem dX5_farEndOf_0 : decode cX5_farEndOf 0 = .ok (.aload_n 0, 1) := by decide +kernel
theorem dX5_farEndOf_1 : decode cX5_farEndOf 1 = .ok (.getfield 27, 3) := by decide +kernel
theorem dX5_farEndOf_4 : decode cX5_farEndOf 4 = .ok (.iload_n 1, 1) := by decide +kernel
theorem dX5_farEndOf_5 : decode cX5_farEndOf 5 = .ok (.iaload, 1) := by decide +kernel
theorem dX5_farEndOf_6 : decode cX5_farEndOf 6 = .ok (.aload_n 0, 1) := by decide +kernel
theorem dX5_farEndOf_7 : decode cX5_farEndOf 7 = .ok (.getfield 30, 3) := by decide +kernel
theorem dX5_farEndOf_10 : decode cX5_farEndOf 10 = .ok (.iload_n 1, 1) := by decide +kernel
theorem dX5_farEndOf_11 : decode cX5_farEndOf 11 = .ok (.iaload, 1) := by decide +kernel
theorem dX5_farEndOf_12 : decode cX5_farEndOf 12 = .ok (.iadd, 1) := by decide +kernel
theorem dX5_farEndOf_13 : decode cX5_farEndOf 13 = .ok (.iload_n 2, 1) := by decide +kernel
theorem dX5_farEndOf_14 : decode cX5_farEndOf 14 = .ok (.isub, 1) := by decide +kernel
theorem dX5_farEndOf_15 : decode cX5_farEndOf 15 = .ok (.ireturn, 1) := by decide +kernel
theorem dX5_runs_0 : decode cX5_runs 0 = .ok (.aload_n 0, 1) := by decide +kernel
theorem dX5_runs_1 : decode cX5_runs 1 = .ok (.aload_n 0, 1) := by decide +kernel
theorem dX5_runs_2 : decode cX5_runs 2 = .ok (.iload_n 1, 1) := by decide +kernel
theorem dX5_runs_3 : decode cX5_runs 3 = .ok (.invokevirtual 114, 3) := by decide +kernel
theorem dX5_runs_6 : decode cX5_runs 6 = .ok (.iload_n 1, 1) := by decide +kernel
theorem dX5_runs_7 : decode cX5_runs 7 = .ok (.invokevirtual 117, 3) := by decide +kernel
theorem dX5_runs_10 : decode cX5_runs 10 = .ok (.ireturn, 1) := by decide +kernel
theorem dX5_runsFrom_0 : decode cX5_runsFrom 0 = .ok (.aload_n 0, 1) := by decide +kernel
theorem dX5_runsFrom_1 : decode cX5_runsFrom 1 = .ok (.getfield 36, 3) := by decide +kernel
theorem dX5_runsFrom_4 : decode cX5_runsFrom 4 = .ok (.iload_n 2, 1) := by decide +kernel
theorem dX5_runsFrom_5 : decode cX5_runsFrom 5 = .ok (.iaload, 1) := by decide +kernel
theorem dX5_runsFrom_6 : decode cX5_runsFrom 6 = .ok (.ifCond .eq 5, 3) := by decide +kernel
theorem dX5_runsFrom_9 : decode cX5_runsFrom 9 = .ok (.iconst 0, 1) := by decide +kernel
theorem dX5_runsFrom_10 : decode cX5_runsFrom 10 = .ok (.ireturn, 1) := by decide +kernel
theorem dX5_runsFrom_11 : decode cX5_runsFrom 11 = .ok (.aload_n 0, 1) := by decide +kernel
theorem dX5_runsFrom_12 : decode cX5_runsFrom 12 = .ok (.iload_n 2, 1) := by decide +kernel
theorem dX5_runsFrom_13 : decode cX5_runsFrom 13 = .ok (.iload_n 1, 1) := by decide +kernel
theorem dX5_runsFrom_14 : decode cX5_runsFrom 14 = .ok (.invokevirtual 120, 3) := by decide +kernel
theorem dX5_runsFrom_17 : decode cX5_runsFrom 17 = .ok (.istore_n 3, 1) := by decide +kernel
theorem dX5_runsFrom_18 : decode cX5_runsFrom 18 = .ok (.aload_n 0, 1) := by decide +kernel
theorem dX5_runsFrom_19 : decode cX5_runsFrom 19 = .ok (.getfield 33, 3) := by decide +kernel
theorem dX5_runsFrom_22 : decode cX5_runsFrom 22 = .ok (.iload_n 2, 1) := by decide +kernel
theorem dX5_runsFrom_23 : decode cX5_runsFrom 23 = .ok (.iaload, 1) := by decide +kernel
theorem dX5_runsFrom_24 : decode cX5_runsFrom 24 = .ok (.aload_n 0, 1) := by decide +kernel
theorem dX5_runsFrom_25 : decode cX5_runsFrom 25 = .ok (.iload_n 1, 1) := by decide +kernel
theorem dX5_runsFrom_26 : decode cX5_runsFrom 26 = .ok (.invokevirtual 111, 3) := by decide +kernel
theorem dX5_runsFrom_29 : decode cX5_runsFrom 29 = .ok (.aload_n 0, 1) := by decide +kernel
theorem dX5_runsFrom_30 : decode cX5_runsFrom 30 = .ok (.iload_n 3, 1) := by decide +kernel
theorem dX5_runsFrom_31 : decode cX5_runsFrom 31 = .ok (.invokevirtual 111, 3) := by decide +kernel
theorem dX5_runsFrom_34 : decode cX5_runsFrom 34 = .ok (.isub, 1) := by decide +kernel
theorem dX5_runsFrom_35 : decode cX5_runsFrom 35 = .ok (.imul, 1) := by decide +kernel
theorem dX5_runsFrom_36 : decode cX5_runsFrom 36 = .ok (.iconst 2, 1) := by decide +kernel
theorem dX5_runsFrom_37 : decode cX5_runsFrom 37 = .ok (.idiv, 1) := by decide +kernel
theorem dX5_runsFrom_38 : decode cX5_runsFrom 38 = .ok (.istore 4, 2) := by decide +kernel
theorem dX5_runsFrom_40 : decode cX5_runsFrom 40 = .ok (.aload_n 0, 1) := by decide +kernel
theorem dX5_runsFrom_41 : decode cX5_runsFrom 41 = .ok (.getfield 9, 3) := by decide +kernel
theorem dX5_runsFrom_44 : decode cX5_runsFrom 44 = .ok (.iload_n 3, 1) := by decide +kernel
theorem dX5_runsFrom_45 : decode cX5_runsFrom 45 = .ok (.iaload, 1) := by decide +kernel
theorem dX5_runsFrom_46 : decode cX5_runsFrom 46 = .ok (.iload 4, 2) := by decide +kernel
theorem dX5_runsFrom_48 : decode cX5_runsFrom 48 = .ok (.aload_n 0, 1) := by decide +kernel
theorem dX5_runsFrom_49 : decode cX5_runsFrom 49 = .ok (.iload_n 1, 1) := by decide +kernel
theorem dX5_runsFrom_50 : decode cX5_runsFrom 50 = .ok (.invokevirtual 89, 3) := by decide +kernel
theorem dX5_runsFrom_53 : decode cX5_runsFrom 53 = .ok (.invokestatic 97, 3) := by decide +kernel
theorem dX5_runsFrom_56 : decode cX5_runsFrom 56 = .ok (.invokestatic 123, 3) := by decide +kernel
theorem dX5_runsFrom_59 : decode cX5_runsFrom 59 = .ok (.ireturn, 1) := by decide +kernel
theorem dX5_runningPipes_0 : decode cX5_runningPipes 0 = .ok (.iconst 0, 1) := by decide +kernel
theorem dX5_runningPipes_1 : decode cX5_runningPipes 1 = .ok (.istore_n 1, 1) := by decide +kernel
theorem dX5_runningPipes_2 : decode cX5_runningPipes 2 = .ok (.iconst 0, 1) := by decide +kernel
theorem dX5_runningPipes_3 : decode cX5_runningPipes 3 = .ok (.istore_n 2, 1) := by decide +kernel
theorem dX5_runningPipes_4 : decode cX5_runningPipes 4 = .ok (.iload_n 2, 1) := by decide +kernel
theorem dX5_runningPipes_5 : decode cX5_runningPipes 5 = .ok (.aload_n 0, 1) := by decide +kernel
theorem dX5_runningPipes_6 : decode cX5_runningPipes 6 = .ok (.getfield 65, 3) := by decide +kernel
theorem dX5_runningPipes_9 : decode cX5_runningPipes 9 = .ok (.if_icmp .ge 25, 3) := by decide +kernel
theorem dX5_runningPipes_12 : decode cX5_runningPipes 12 = .ok (.iload_n 1, 1) := by decide +kernel
theorem dX5_runningPipes_13 : decode cX5_runningPipes 13 = .ok (.aload_n 0, 1) := by decide +kernel
theorem dX5_runningPipes_14 : decode cX5_runningPipes 14 = .ok (.iload_n 2, 1) := by decide +kernel
theorem dX5_runningPipes_15 : decode cX5_runningPipes 15 = .ok (.invokevirtual 126, 3) := by decide +kernel
theorem dX5_runningPipes_18 : decode cX5_runningPipes 18 = .ok (.ifCond .le 7, 3) := by decide +kernel
theorem dX5_runningPipes_21 : decode cX5_runningPipes 21 = .ok (.iconst 1, 1) := by decide +kernel
theorem dX5_runningPipes_22 : decode cX5_runningPipes 22 = .ok (.goto 4, 3) := by decide +kernel
theorem dX5_runningPipes_25 : decode cX5_runningPipes 25 = .ok (.iconst 0, 1) := by decide +kernel
theorem dX5_runningPipes_26 : decode cX5_runningPipes 26 = .ok (.iadd, 1) := by decide +kernel
theorem dX5_runningPipes_27 : decode cX5_runningPipes 27 = .ok (.istore_n 1, 1) := by decide +kernel
theorem dX5_runningPipes_28 : decode cX5_runningPipes 28 = .ok (.iinc 2 1, 3) := by decide +kernel
theorem dX5_runningPipes_31 : decode cX5_runningPipes 31 = .ok (.goto (-27), 3) := by decide +kernel
theorem dX5_runningPipes_34 : decode cX5_runningPipes 34 = .ok (.iload_n 1, 1) := by decide +kernel
theorem dX5_runningPipes_35 : decode cX5_runningPipes 35 = .ok (.ireturn, 1) := by decide +kernel
theorem dX5_corkedPipes_0 : decode cX5_corkedPipes 0 = .ok (.iconst 0, 1) := by decide +kernel
theorem dX5_corkedPipes_1 : decode cX5_corkedPipes 1 = .ok (.istore_n 1, 1) := by decide +kernel
theorem dX5_corkedPipes_2 : decode cX5_corkedPipes 2 = .ok (.iconst 0, 1) := by decide +kernel
theorem dX5_corkedPipes_3 : decode cX5_corkedPipes 3 = .ok (.istore_n 2, 1) := by decide +kernel
theorem dX5_corkedPipes_4 : decode cX5_corkedPipes 4 = .ok (.iload_n 2, 1) := by decide +kernel
theorem dX5_corkedPipes_5 : decode cX5_corkedPipes 5 = .ok (.aload_n 0, 1) := by decide +kernel
theorem dX5_corkedPipes_6 : decode cX5_corkedPipes 6 = .ok (.getfield 65, 3) := by decide +kernel
theorem dX5_corkedPipes_9 : decode cX5_corkedPipes 9 = .ok (.if_icmp .ge 18, 3) := by decide +kernel
theorem dX5_corkedPipes_12 : decode cX5_corkedPipes 12 = .ok (.iload_n 1, 1) := by decide +kernel
theorem dX5_corkedPipes_13 : decode cX5_corkedPipes 13 = .ok (.aload_n 0, 1) := by decide +kernel
theorem dX5_corkedPipes_14 : decode cX5_corkedPipes 14 = .ok (.getfield 36, 3) := by decide +kernel
theorem dX5_corkedPipes_17 : decode cX5_corkedPipes 17 = .ok (.iload_n 2, 1) := by decide +kernel
theorem dX5_corkedPipes_18 : decode cX5_corkedPipes 18 = .ok (.iaload, 1) := by decide +kernel
theorem dX5_corkedPipes_19 : decode cX5_corkedPipes 19 = .ok (.iadd, 1) := by decide +kernel
theorem dX5_corkedPipes_20 : decode cX5_corkedPipes 20 = .ok (.istore_n 1, 1) := by decide +kernel
theorem dX5_corkedPipes_21 : decode cX5_corkedPipes 21 = .ok (.iinc 2 1, 3) := by decide +kernel
theorem dX5_corkedPipes_24 : decode cX5_corkedPipes 24 = .ok (.goto (-20), 3) := by decide +kernel
theorem dX5_corkedPipes_27 : decode cX5_corkedPipes 27 = .ok (.iload_n 1, 1) := by decide +kernel
theorem dX5_corkedPipes_28 : decode cX5_corkedPipes 28 = .ok (.ireturn, 1) := by decide +kernel
theorem dX5_filledCellars_0 : decode cX5_filledCellars 0 = .ok (.iconst 0, 1) := by decide +kernel
theorem dX5_filledCellars_1 : decode cX5_filledCellars 1 = .ok (.istore_n 1, 1) := by decide +kernel
theorem dX5_filledCellars_2 : decode cX5_filledCellars 2 = .ok (.iconst 0, 1) := by decide +kernel
theorem dX5_filledCellars_3 : decode cX5_filledCellars 3 = .ok (.istore_n 2, 1) := by decide +kernel
theorem dX5_filledCellars_4 : decode cX5_filledCellars 4 = .ok (.iload_n 2, 1) := by decide +kernel
theorem dX5_filledCellars_5 : decode cX5_filledCellars 5 = .ok (.aload_n 0, 1) := by decide +kernel
theorem dX5_filledCellars_6 : decode cX5_filledCellars 6 = .ok (.getfield 62, 3) := by decide +kernel
theorem dX5_filledCellars_9 : decode cX5_filledCellars 9 = .ok (.if_icmp .ge 23, 3) := by decide +kernel
theorem dX5_filledCellars_12 : decode cX5_filledCellars 12 = .ok (.aload_n 0, 1) := by decide +kernel
theorem dX5_filledCellars_13 : decode cX5_filledCellars 13 = .ok (.iload_n 2, 1) := by decide +kernel
theorem dX5_filledCellars_14 : decode cX5_filledCellars 14 = .ok (.invokevirtual 89, 3) := by decide +kernel
theorem dX5_filledCellars_17 : decode cX5_filledCellars 17 = .ok (.ifCond .le 9, 3) := by decide +kernel
theorem dX5_filledCellars_20 : decode cX5_filledCellars 20 = .ok (.iload_n 1, 1) := by decide +kernel
theorem dX5_filledCellars_21 : decode cX5_filledCellars 21 = .ok (.iconst 1, 1) := by decide +kernel
theorem dX5_filledCellars_22 : decode cX5_filledCellars 22 = .ok (.iload_n 2, 1) := by decide +kernel
theorem dX5_filledCellars_23 : decode cX5_filledCellars 23 = .ok (.ishl, 1) := by decide +kernel
theorem dX5_filledCellars_24 : decode cX5_filledCellars 24 = .ok (.ior, 1) := by decide +kernel
theorem dX5_filledCellars_25 : decode cX5_filledCellars 25 = .ok (.istore_n 1, 1) := by decide +kernel
theorem dX5_filledCellars_26 : decode cX5_filledCellars 26 = .ok (.iinc 2 1, 3) := by decide +kernel
theorem dX5_filledCellars_29 : decode cX5_filledCellars 29 = .ok (.goto (-25), 3) := by decide +kernel
theorem dX5_filledCellars_32 : decode cX5_filledCellars 32 = .ok (.iload_n 1, 1) := by decide +kernel
theorem dX5_filledCellars_33 : decode cX5_filledCellars 33 = .ok (.ireturn, 1) := by decide +kernel
theorem dX5_isJoined_0 : decode cX5_isJoined 0 = .ok (.iconst 0, 1) := by decide +kernel
theorem dX5_isJoined_1 : decode cX5_isJoined 1 = .ok (.istore_n 3, 1) := by decide +kernel
theorem dX5_isJoined_2 : decode cX5_isJoined 2 = .ok (.iload_n 3, 1) := by decide +kernel
theorem dX5_isJoined_3 : decode cX5_isJoined 3 = .ok (.aload_n 0, 1) := by decide +kernel
theorem dX5_isJoined_4 : decode cX5_isJoined 4 = .ok (.getfield 65, 3) := by decide +kernel
theorem dX5_isJoined_7 : decode cX5_isJoined 7 = .ok (.if_icmp .ge 51, 3) := by decide +kernel
theorem dX5_isJoined_10 : decode cX5_isJoined 10 = .ok (.aload_n 0, 1) := by decide +kernel
theorem dX5_isJoined_11 : decode cX5_isJoined 11 = .ok (.getfield 27, 3) := by decide +kernel
theorem dX5_isJoined_14 : decode cX5_isJoined 14 = .ok (.iload_n 3, 1) := by decide +kernel
theorem dX5_isJoined_15 : decode cX5_isJoined 15 = .ok (.iaload, 1) := by decide +kernel
theorem dX5_isJoined_16 : decode cX5_isJoined 16 = .ok (.iload_n 1, 1) := by decide +kernel
theorem dX5_isJoined_17 : decode cX5_isJoined 17 = .ok (.if_icmp .ne 13, 3) := by decide +kernel
theorem dX5_isJoined_20 : decode cX5_isJoined 20 = .ok (.aload_n 0, 1) := by decide +kernel
theorem dX5_isJoined_21 : decode cX5_isJoined 21 = .ok (.getfield 30, 3) := by decide +kernel
theorem dX5_isJoined_24 : decode cX5_isJoined 24 = .ok (.iload_n 3, 1) := by decide +kernel
theorem dX5_isJoined_25 : decode cX5_isJoined 25 = .ok (.iaload, 1) := by decide +kernel
theorem dX5_isJoined_26 : decode cX5_isJoined 26 = .ok (.iload_n 2, 1) := by decide +kernel
theorem dX5_isJoined_27 : decode cX5_isJoined 27 = .ok (.if_icmp .eq 23, 3) := by decide +kernel
theorem dX5_isJoined_30 : decode cX5_isJoined 30 = .ok (.aload_n 0, 1) := by decide +kernel
theorem dX5_isJoined_31 : decode cX5_isJoined 31 = .ok (.getfield 27, 3) := by decide +kernel
theorem dX5_isJoined_34 : decode cX5_isJoined 34 = .ok (.iload_n 3, 1) := by decide +kernel
theorem dX5_isJoined_35 : decode cX5_isJoined 35 = .ok (.iaload, 1) := by decide +kernel
theorem dX5_isJoined_36 : decode cX5_isJoined 36 = .ok (.iload_n 2, 1) := by decide +kernel
theorem dX5_isJoined_37 : decode cX5_isJoined 37 = .ok (.if_icmp .ne 15, 3) := by decide +kernel
theorem dX5_isJoined_40 : decode cX5_isJoined 40 = .ok (.aload_n 0, 1) := by decide +kernel
theorem dX5_isJoined_41 : decode cX5_isJoined 41 = .ok (.getfield 30, 3) := by decide +kernel
theorem dX5_isJoined_44 : decode cX5_isJoined 44 = .ok (.iload_n 3, 1) := by decide +kernel
theorem dX5_isJoined_45 : decode cX5_isJoined 45 = .ok (.iaload, 1) := by decide +kernel
theorem dX5_isJoined_46 : decode cX5_isJoined 46 = .ok (.iload_n 1, 1) := by decide +kernel
theorem dX5_isJoined_47 : decode cX5_isJoined 47 = .ok (.if_icmp .ne 5, 3) := by decide +kernel
theorem dX5_isJoined_50 : decode cX5_isJoined 50 = .ok (.iconst 1, 1) := by decide +kernel
theorem dX5_isJoined_51 : decode cX5_isJoined 51 = .ok (.ireturn, 1) := by decide +kernel
theorem dX5_isJoined_52 : decode cX5_isJoined 52 = .ok (.iinc 3 1, 3) := by decide +kernel
theorem dX5_isJoined_55 : decode cX5_isJoined 55 = .ok (.goto (-53), 3) := by decide +kernel
theorem dX5_isJoined_58 : decode cX5_isJoined 58 = .ok (.iconst 0, 1) := by decide +kernel
theorem dX5_isJoined_59 : decode cX5_isJoined 59 = .ok (.ireturn, 1) := by decide +kernel
theorem dX5_passHours_0 : decode cX5_passHours 0 = .ok (.iconst 0, 1) := by decide +kernel
theorem dX5_passHours_1 : decode cX5_passHours 1 = .ok (.istore_n 2, 1) := by decide +kernel
theorem dX5_passHours_2 : decode cX5_passHours 2 = .ok (.iload_n 2, 1) := by decide +kernel
theorem dX5_passHours_3 : decode cX5_passHours 3 = .ok (.iload_n 1, 1) := by decide +kernel
theorem dX5_passHours_4 : decode cX5_passHours 4 = .ok (.if_icmp .ge 13, 3) := by decide +kernel
theorem dX5_passHours_7 : decode cX5_passHours 7 = .ok (.aload_n 0, 1) := by decide +kernel
theorem dX5_passHours_8 : decode cX5_passHours 8 = .ok (.invokevirtual 129, 3) := by decide +kernel
theorem dX5_passHours_11 : decode cX5_passHours 11 = .ok (.iinc 2 1, 3) := by decide +kernel
theorem dX5_passHours_14 : decode cX5_passHours 14 = .ok (.goto (-12), 3) := by decide +kernel
theorem dX5_passHours_17 : decode cX5_passHours 17 = .ok (.return_, 1) := by decide +kernel
theorem dX5_oneHour_0 : decode cX5_oneHour 0 = .ok (.iconst 0, 1) := by decide +kernel
theorem dX5_oneHour_1 : decode cX5_oneHour 1 = .ok (.istore_n 1, 1) := by decide +kernel
theorem dX5_oneHour_2 : decode cX5_oneHour 2 = .ok (.iload_n 1, 1) := by decide +kernel
theorem dX5_oneHour_3 : decode cX5_oneHour 3 = .ok (.aload_n 0, 1) := by decide +kernel
theorem dX5_oneHour_4 : decode cX5_oneHour 4 = .ok (.getfield 65, 3) := by decide +kernel
theorem dX5_oneHour_7 : decode cX5_oneHour 7 = .ok (.if_icmp .ge 32, 3) := by decide +kernel
theorem dX5_oneHour_10 : decode cX5_oneHour 10 = .ok (.aload_n 0, 1) := by decide +kernel
theorem dX5_oneHour_11 : decode cX5_oneHour 11 = .ok (.iload_n 1, 1) := by decide +kernel
theorem dX5_oneHour_12 : decode cX5_oneHour 12 = .ok (.invokevirtual 114, 3) := by decide +kernel
theorem dX5_oneHour_15 : decode cX5_oneHour 15 = .ok (.istore_n 2, 1) := by decide +kernel
theorem dX5_oneHour_16 : decode cX5_oneHour 16 = .ok (.aload_n 0, 1) := by decide +kernel
theorem dX5_oneHour_17 : decode cX5_oneHour 17 = .ok (.iload_n 2, 1) := by decide +kernel
theorem dX5_oneHour_18 : decode cX5_oneHour 18 = .ok (.aload_n 0, 1) := by decide +kernel
theorem dX5_oneHour_19 : decode cX5_oneHour 19 = .ok (.iload_n 2, 1) := by decide +kernel
theorem dX5_oneHour_20 : decode cX5_oneHour 20 = .ok (.iload_n 1, 1) := by decide +kernel
theorem dX5_oneHour_21 : decode cX5_oneHour 21 = .ok (.invokevirtual 117, 3) := by decide +kernel
theorem dX5_oneHour_24 : decode cX5_oneHour 24 = .ok (.aload_n 0, 1) := by decide +kernel
theorem dX5_oneHour_25 : decode cX5_oneHour 25 = .ok (.iload_n 1, 1) := by decide +kernel
theorem dX5_oneHour_26 : decode cX5_oneHour 26 = .ok (.iload_n 2, 1) := by decide +kernel
theorem dX5_oneHour_27 : decode cX5_oneHour 27 = .ok (.invokevirtual 120, 3) := by decide +kernel
theorem dX5_oneHour_30 : decode cX5_oneHour 30 = .ok (.invokevirtual 132, 3) := by decide +kernel
theorem dX5_oneHour_33 : decode cX5_oneHour 33 = .ok (.iinc 1 1, 3) := by decide +kernel
theorem dX5_oneHour_36 : decode cX5_oneHour 36 = .ok (.goto (-34), 3) := by decide +kernel
theorem dX5_oneHour_39 : decode cX5_oneHour 39 = .ok (.iconst 0, 1) := by decide +kernel
theorem dX5_oneHour_40 : decode cX5_oneHour 40 = .ok (.istore_n 1, 1) := by decide +kernel
theorem dX5_oneHour_41 : decode cX5_oneHour 41 = .ok (.iload_n 1, 1) := by decide +kernel
theorem dX5_oneHour_42 : decode cX5_oneHour 42 = .ok (.aload_n 0, 1) := by decide +kernel
theorem dX5_oneHour_43 : decode cX5_oneHour 43 = .ok (.getfield 62, 3) := by decide +kernel
theorem dX5_oneHour_46 : decode cX5_oneHour 46 = .ok (.if_icmp .ge 29, 3) := by decide +kernel
theorem dX5_oneHour_49 : decode cX5_oneHour 49 = .ok (.aload_n 0, 1) := by decide +kernel
theorem dX5_oneHour_50 : decode cX5_oneHour 50 = .ok (.iload_n 1, 1) := by decide +kernel
theorem dX5_oneHour_51 : decode cX5_oneHour 51 = .ok (.aload_n 0, 1) := by decide +kernel
theorem dX5_oneHour_52 : decode cX5_oneHour 52 = .ok (.getfield 9, 3) := by decide +kernel
theorem dX5_oneHour_55 : decode cX5_oneHour 55 = .ok (.iload_n 1, 1) := by decide +kernel
theorem dX5_oneHour_56 : decode cX5_oneHour 56 = .ok (.iaload, 1) := by decide +kernel
theorem dX5_oneHour_57 : decode cX5_oneHour 57 = .ok (.aload_n 0, 1) := by decide +kernel
theorem dX5_oneHour_58 : decode cX5_oneHour 58 = .ok (.iload_n 1, 1) := by decide +kernel
theorem dX5_oneHour_59 : decode cX5_oneHour 59 = .ok (.invokevirtual 89, 3) := by decide +kernel
theorem dX5_oneHour_62 : decode cX5_oneHour 62 = .ok (.invokestatic 136, 3) := by decide +kernel
theorem dX5_oneHour_65 : decode cX5_oneHour 65 = .ok (.iconst (-1), 1) := by decide +kernel
theorem dX5_oneHour_66 : decode cX5_oneHour 66 = .ok (.invokevirtual 132, 3) := by decide +kernel
theorem dX5_oneHour_69 : decode cX5_oneHour 69 = .ok (.iinc 1 1, 3) := by decide +kernel
theorem dX5_oneHour_72 : decode cX5_oneHour 72 = .ok (.goto (-31), 3) := by decide +kernel
theorem dX5_oneHour_75 : decode cX5_oneHour 75 = .ok (.iconst 0, 1) := by decide +kernel
theorem dX5_oneHour_76 : decode cX5_oneHour 76 = .ok (.istore_n 1, 1) := by decide +kernel
theorem dX5_oneHour_77 : decode cX5_oneHour 77 = .ok (.iload_n 1, 1) := by decide +kernel
theorem dX5_oneHour_78 : decode cX5_oneHour 78 = .ok (.aload_n 0, 1) := by decide +kernel
theorem dX5_oneHour_79 : decode cX5_oneHour 79 = .ok (.getfield 62, 3) := by decide +kernel
theorem dX5_oneHour_82 : decode cX5_oneHour 82 = .ok (.if_icmp .ge 39, 3) := by decide +kernel
theorem dX5_oneHour_85 : decode cX5_oneHour 85 = .ok (.aload_n 0, 1) := by decide +kernel
theorem dX5_oneHour_86 : decode cX5_oneHour 86 = .ok (.getfield 24, 3) := by decide +kernel
theorem dX5_oneHour_89 : decode cX5_oneHour 89 = .ok (.iload_n 1, 1) := by decide +kernel
theorem dX5_oneHour_90 : decode cX5_oneHour 90 = .ok (.iaload, 1) := by decide +kernel
theorem dX5_oneHour_91 : decode cX5_oneHour 91 = .ok (.aload_n 0, 1) := by decide +kernel
theorem dX5_oneHour_92 : decode cX5_oneHour 92 = .ok (.getfield 18, 3) := by decide +kernel
theorem dX5_oneHour_95 : decode cX5_oneHour 95 = .ok (.iload_n 1, 1) := by decide +kernel
theorem dX5_oneHour_96 : decode cX5_oneHour 96 = .ok (.iaload, 1) := by decide +kernel
theorem dX5_oneHour_97 : decode cX5_oneHour 97 = .ok (.if_icmp .le 18, 3) := by decide +kernel
theorem dX5_oneHour_100 : decode cX5_oneHour 100 = .ok (.aload_n 0, 1) := by decide +kernel
theorem dX5_oneHour_101 : decode cX5_oneHour 101 = .ok (.iload_n 1, 1) := by decide +kernel
theorem dX5_oneHour_102 : decode cX5_oneHour 102 = .ok (.aload_n 0, 1) := by decide +kernel
theorem dX5_oneHour_103 : decode cX5_oneHour 103 = .ok (.iload_n 1, 1) := by decide +kernel
theorem dX5_oneHour_104 : decode cX5_oneHour 104 = .ok (.invokevirtual 89, 3) := by decide +kernel
theorem dX5_oneHour_107 : decode cX5_oneHour 107 = .ok (.iconst 4, 1) := by decide +kernel
theorem dX5_oneHour_108 : decode cX5_oneHour 108 = .ok (.idiv, 1) := by decide +kernel
theorem dX5_oneHour_109 : decode cX5_oneHour 109 = .ok (.iconst 1, 1) := by decide +kernel
theorem dX5_oneHour_110 : decode cX5_oneHour 110 = .ok (.iadd, 1) := by decide +kernel
theorem dX5_oneHour_111 : decode cX5_oneHour 111 = .ok (.iconst (-1), 1) := by decide +kernel
theorem dX5_oneHour_112 : decode cX5_oneHour 112 = .ok (.invokevirtual 132, 3) := by decide +kernel
theorem dX5_oneHour_115 : decode cX5_oneHour 115 = .ok (.iinc 1 1, 3) := by decide +kernel
theorem dX5_oneHour_118 : decode cX5_oneHour 118 = .ok (.goto (-41), 3) := by decide +kernel
theorem dX5_oneHour_121 : decode cX5_oneHour 121 = .ok (.aload_n 0, 1) := by decide +kernel
theorem dX5_oneHour_122 : decode cX5_oneHour 122 = .ok (.invokevirtual 139, 3) := by decide +kernel
theorem dX5_oneHour_125 : decode cX5_oneHour 125 = .ok (.bipush 100, 2) := by decide +kernel
theorem dX5_oneHour_127 : decode cX5_oneHour 127 = .ok (.irem, 1) := by decide +kernel
theorem dX5_oneHour_128 : decode cX5_oneHour 128 = .ok (.aload_n 0, 1) := by decide +kernel
theorem dX5_oneHour_129 : decode cX5_oneHour 129 = .ok (.getfield 71, 3) := by decide +kernel
theorem dX5_oneHour_132 : decode cX5_oneHour 132 = .ok (.if_icmp .ge 26, 3) := by decide +kernel
theorem dX5_oneHour_135 : decode cX5_oneHour 135 = .ok (.aload_n 0, 1) := by decide +kernel
theorem dX5_oneHour_136 : decode cX5_oneHour 136 = .ok (.getfield 62, 3) := by decide +kernel
theorem dX5_oneHour_139 : decode cX5_oneHour 139 = .ok (.ifCond .le 19, 3) := by decide +kernel
theorem dX5_oneHour_142 : decode cX5_oneHour 142 = .ok (.aload_n 0, 1) := by decide +kernel
theorem dX5_oneHour_143 : decode cX5_oneHour 143 = .ok (.aload_n 0, 1) := by decide +kernel
theorem dX5_oneHour_144 : decode cX5_oneHour 144 = .ok (.invokevirtual 139, 3) := by decide +kernel
theorem dX5_oneHour_147 : decode cX5_oneHour 147 = .ok (.aload_n 0, 1) := by decide +kernel
theorem dX5_oneHour_148 : decode cX5_oneHour 148 = .ok (.getfield 62, 3) := by decide +kernel
theorem dX5_oneHour_151 : decode cX5_oneHour 151 = .ok (.irem, 1) := by decide +kernel
theorem dX5_oneHour_152 : decode cX5_oneHour 152 = .ok (.iconst 5, 1) := by decide +kernel
theorem dX5_oneHour_153 : decode cX5_oneHour 153 = .ok (.bipush (-2), 2) := by decide +kernel
theorem dX5_oneHour_155 : decode cX5_oneHour 155 = .ok (.invokevirtual 132, 3) := by decide +kernel
theorem dX5_oneHour_158 : decode cX5_oneHour 158 = .ok (.aload_n 0, 1) := by decide +kernel
theorem dX5_oneHour_159 : decode cX5_oneHour 159 = .ok (.dup, 1) := by decide +kernel
theorem dX5_oneHour_160 : decode cX5_oneHour 160 = .ok (.getfield 74, 3) := by decide +kernel
theorem dX5_oneHour_163 : decode cX5_oneHour 163 = .ok (.iconst 1, 1) := by decide +kernel
theorem dX5_oneHour_164 : decode cX5_oneHour 164 = .ok (.iadd, 1) := by decide +kernel
theorem dX5_oneHour_165 : decode cX5_oneHour 165 = .ok (.putfield 74, 3) := by decide +kernel
theorem dX5_oneHour_168 : decode cX5_oneHour 168 = .ok (.return_, 1) := by decide +kernel
theorem dX5_lead_0 : decode cX5_lead 0 = .ok (.aload_n 0, 1) := by decide +kernel
theorem dX5_lead_1 : decode cX5_lead 1 = .ok (.iload_n 1, 1) := by decide +kernel
theorem dX5_lead_2 : decode cX5_lead 2 = .ok (.invokevirtual 89, 3) := by decide +kernel
theorem dX5_lead_5 : decode cX5_lead 5 = .ok (.istore 4, 2) := by decide +kernel
theorem dX5_lead_7 : decode cX5_lead 7 = .ok (.iload_n 2, 1) := by decide +kernel
theorem dX5_lead_8 : decode cX5_lead 8 = .ok (.iload 4, 2) := by decide +kernel
theorem dX5_lead_10 : decode cX5_lead 10 = .ok (.invokestatic 97, 3) := by decide +kernel
theorem dX5_lead_13 : decode cX5_lead 13 = .ok (.istore 5, 2) := by decide +kernel
theorem dX5_lead_15 : decode cX5_lead 15 = .ok (.iload 5, 2) := by decide +kernel
theorem dX5_lead_17 : decode cX5_lead 17 = .ok (.ifCond .gt 4, 3) := by decide +kernel
theorem dX5_lead_20 : decode cX5_lead 20 = .ok (.return_, 1) := by decide +kernel
theorem dX5_lead_21 : decode cX5_lead 21 = .ok (.iload 5, 2) := by decide +kernel
theorem dX5_lead_23 : decode cX5_lead 23 = .ok (.istore 6, 2) := by decide +kernel
theorem dX5_lead_25 : decode cX5_lead 25 = .ok (.iconst 0, 1) := by decide +kernel
theorem dX5_lead_26 : decode cX5_lead 26 = .ok (.istore 7, 2) := by decide +kernel
theorem dX5_lead_28 : decode cX5_lead 28 = .ok (.iload 7, 2) := by decide +kernel
theorem dX5_lead_30 : decode cX5_lead 30 = .ok (.iconst 3, 1) := by decide +kernel
theorem dX5_lead_31 : decode cX5_lead 31 = .ok (.if_icmp .ge 49, 3) := by decide +kernel
theorem dX5_lead_34 : decode cX5_lead 34 = .ok (.aload_n 0, 1) := by decide +kernel
theorem dX5_lead_35 : decode cX5_lead 35 = .ok (.getfield 46, 3) := by decide +kernel
theorem dX5_lead_38 : decode cX5_lead 38 = .ok (.iload 7, 2) := by decide +kernel
theorem dX5_lead_40 : decode cX5_lead 40 = .ok (.aload_n 0, 1) := by decide +kernel
theorem dX5_lead_41 : decode cX5_lead 41 = .ok (.getfield 21, 3) := by decide +kernel
theorem dX5_lead_44 : decode cX5_lead 44 = .ok (.iload_n 1, 1) := by decide +kernel
theorem dX5_lead_45 : decode cX5_lead 45 = .ok (.iconst 3, 1) := by decide +kernel
theorem dX5_lead_46 : decode cX5_lead 46 = .ok (.imul, 1) := by decide +kernel
theorem dX5_lead_47 : decode cX5_lead 47 = .ok (.iload 7, 2) := by decide +kernel
theorem dX5_lead_49 : decode cX5_lead 49 = .ok (.iadd, 1) := by decide +kernel
theorem dX5_lead_50 : decode cX5_lead 50 = .ok (.iaload, 1) := by decide +kernel
theorem dX5_lead_51 : decode cX5_lead 51 = .ok (.i2l, 1) := by decide +kernel
theorem dX5_lead_52 : decode cX5_lead 52 = .ok (.iload 5, 2) := by decide +kernel
theorem dX5_lead_54 : decode cX5_lead 54 = .ok (.i2l, 1) := by decide +kernel
theorem dX5_lead_55 : decode cX5_lead 55 = .ok (.lmul, 1) := by decide +kernel
theorem dX5_lead_56 : decode cX5_lead 56 = .ok (.iload 4, 2) := by decide +kernel
theorem dX5_lead_58 : decode cX5_lead 58 = .ok (.i2l, 1) := by decide +kernel
theorem dX5_lead_59 : decode cX5_lead 59 = .ok (.ldiv, 1) := by decide +kernel
theorem dX5_lead_60 : decode cX5_lead 60 = .ok (.l2i, 1) := by decide +kernel
theorem dX5_lead_61 : decode cX5_lead 61 = .ok (.iastore, 1) := by decide +kernel
theorem dX5_lead_62 : decode cX5_lead 62 = .ok (.iload 6, 2) := by decide +kernel
theorem dX5_lead_64 : decode cX5_lead 64 = .ok (.aload_n 0, 1) := by decide +kernel
theorem dX5_lead_65 : decode cX5_lead 65 = .ok (.getfield 46, 3) := by decide +kernel
theorem dX5_lead_68 : decode cX5_lead 68 = .ok (.iload 7, 2) := by decide +kernel
theorem dX5_lead_70 : decode cX5_lead 70 = .ok (.iaload, 1) := by decide +kernel
theorem dX5_lead_71 : decode cX5_lead 71 = .ok (.isub, 1) := by decide +kernel
theorem dX5_lead_72 : decode cX5_lead 72 = .ok (.istore 6, 2) := by decide +kernel
theorem dX5_lead_74 : decode cX5_lead 74 = .ok (.iinc 7 1, 3) := by decide +kernel
theorem dX5_lead_77 : decode cX5_lead 77 = .ok (.goto (-49), 3) := by decide +kernel
theorem dX5_lead_80 : decode cX5_lead 80 = .ok (.iconst 0, 1) := by decide +kernel
theorem dX5_lead_81 : decode cX5_lead 81 = .ok (.istore 7, 2) := by decide +kernel
theorem dX5_lead_83 : decode cX5_lead 83 = .ok (.iload 7, 2) := by decide +kernel
theorem dX5_lead_85 : decode cX5_lead 85 = .ok (.iconst 3, 1) := by decide +kernel
theorem dX5_lead_86 : decode cX5_lead 86 = .ok (.if_icmp .ge 94, 3) := by decide +kernel
theorem dX5_lead_89 : decode cX5_lead 89 = .ok (.iload 6, 2) := by decide +kernel
theorem dX5_lead_91 : decode cX5_lead 91 = .ok (.aload_n 0, 1) := by decide +kernel
theorem dX5_lead_92 : decode cX5_lead 92 = .ok (.getfield 21, 3) := by decide +kernel
theorem dX5_lead_95 : decode cX5_lead 95 = .ok (.iload_n 1, 1) := by decide +kernel
theorem dX5_lead_96 : decode cX5_lead 96 = .ok (.iconst 3, 1) := by decide +kernel
theorem dX5_lead_97 : decode cX5_lead 97 = .ok (.imul, 1) := by decide +kernel
theorem dX5_lead_98 : decode cX5_lead 98 = .ok (.iload 7, 2) := by decide +kernel
theorem dX5_lead_100 : decode cX5_lead 100 = .ok (.iadd, 1) := by decide +kernel
theorem dX5_lead_101 : decode cX5_lead 101 = .ok (.iaload, 1) := by decide +kernel
theorem dX5_lead_102 : decode cX5_lead 102 = .ok (.aload_n 0, 1) := by decide +kernel
theorem dX5_lead_103 : decode cX5_lead 103 = .ok (.getfield 46, 3) := by decide +kernel
theorem dX5_lead_106 : decode cX5_lead 106 = .ok (.iload 7, 2) := by decide +kernel
theorem dX5_lead_108 : decode cX5_lead 108 = .ok (.iaload, 1) := by decide +kernel
theorem dX5_lead_109 : decode cX5_lead 109 = .ok (.isub, 1) := by decide +kernel
theorem dX5_lead_110 : decode cX5_lead 110 = .ok (.invokestatic 97, 3) := by decide +kernel
theorem dX5_lead_113 : decode cX5_lead 113 = .ok (.istore 8, 2) := by decide +kernel
theorem dX5_lead_115 : decode cX5_lead 115 = .ok (.iload 6, 2) := by decide +kernel
theorem dX5_lead_117 : decode cX5_lead 117 = .ok (.iload 8, 2) := by decide +kernel
theorem dX5_lead_119 : decode cX5_lead 119 = .ok (.isub, 1) := by decide +kernel
theorem dX5_lead_120 : decode cX5_lead 120 = .ok (.istore 6, 2) := by decide +kernel
theorem dX5_lead_122 : decode cX5_lead 122 = .ok (.aload_n 0, 1) := by decide +kernel
theorem dX5_lead_123 : decode cX5_lead 123 = .ok (.getfield 21, 3) := by decide +kernel
theorem dX5_lead_126 : decode cX5_lead 126 = .ok (.iload_n 1, 1) := by decide +kernel
theorem dX5_lead_127 : decode cX5_lead 127 = .ok (.iconst 3, 1) := by decide +kernel
theorem dX5_lead_128 : decode cX5_lead 128 = .ok (.imul, 1) := by decide +kernel
theorem dX5_lead_129 : decode cX5_lead 129 = .ok (.iload 7, 2) := by decide +kernel
theorem dX5_lead_131 : decode cX5_lead 131 = .ok (.iadd, 1) := by decide +kernel
theorem dX5_lead_132 : decode cX5_lead 132 = .ok (.dup2, 1) := by decide +kernel
theorem dX5_lead_133 : decode cX5_lead 133 = .ok (.iaload, 1) := by decide +kernel
theorem dX5_lead_134 : decode cX5_lead 134 = .ok (.aload_n 0, 1) := by decide +kernel
theorem dX5_lead_135 : decode cX5_lead 135 = .ok (.getfield 46, 3) := by decide +kernel
theorem dX5_lead_138 : decode cX5_lead 138 = .ok (.iload 7, 2) := by decide +kernel
theorem dX5_lead_140 : decode cX5_lead 140 = .ok (.iaload, 1) := by decide +kernel
theorem dX5_lead_141 : decode cX5_lead 141 = .ok (.iload 8, 2) := by decide +kernel
theorem dX5_lead_143 : decode cX5_lead 143 = .ok (.iadd, 1) := by decide +kernel
theorem dX5_lead_144 : decode cX5_lead 144 = .ok (.isub, 1) := by decide +kernel
theorem dX5_lead_145 : decode cX5_lead 145 = .ok (.iastore, 1) := by decide +kernel
theorem dX5_lead_146 : decode cX5_lead 146 = .ok (.iload_n 3, 1) := by decide +kernel
theorem dX5_lead_147 : decode cX5_lead 147 = .ok (.ifCond .lt 27, 3) := by decide +kernel
theorem dX5_lead_150 : decode cX5_lead 150 = .ok (.aload_n 0, 1) := by decide +kernel
theorem dX5_lead_151 : decode cX5_lead 151 = .ok (.getfield 21, 3) := by decide +kernel
theorem dX5_lead_154 : decode cX5_lead 154 = .ok (.iload_n 3, 1) := by decide +kernel
theorem dX5_lead_155 : decode cX5_lead 155 = .ok (.iconst 3, 1) := by decide +kernel
theorem dX5_lead_156 : decode cX5_lead 156 = .ok (.imul, 1) := by decide +kernel
theorem dX5_lead_157 : decode cX5_lead 157 = .ok (.iload 7, 2) := by decide +kernel
theorem dX5_lead_159 : decode cX5_lead 159 = .ok (.iadd, 1) := by decide +kernel
theorem dX5_lead_160 : decode cX5_lead 160 = .ok (.dup2, 1) := by decide +kernel
theorem dX5_lead_161 : decode cX5_lead 161 = .ok (.iaload, 1) := by decide +kernel
theorem dX5_lead_162 : decode cX5_lead 162 = .ok (.aload_n 0, 1) := by decide +kernel
theorem dX5_lead_163 : decode cX5_lead 163 = .ok (.getfield 46, 3) := by decide +kernel
theorem dX5_lead_166 : decode cX5_lead 166 = .ok (.iload 7, 2) := by decide +kernel
theorem dX5_lead_168 : decode cX5_lead 168 = .ok (.iaload, 1) := by decide +kernel
theorem dX5_lead_169 : decode cX5_lead 169 = .ok (.iload 8, 2) := by decide +kernel
theorem dX5_lead_171 : decode cX5_lead 171 = .ok (.iadd, 1) := by decide +kernel
theorem dX5_lead_172 : decode cX5_lead 172 = .ok (.iadd, 1) := by decide +kernel
theorem dX5_lead_173 : decode cX5_lead 173 = .ok (.iastore, 1) := by decide +kernel
theorem dX5_lead_174 : decode cX5_lead 174 = .ok (.iinc 7 1, 3) := by decide +kernel
theorem dX5_lead_177 : decode cX5_lead 177 = .ok (.goto (-94), 3) := by decide +kernel
theorem dX5_lead_180 : decode cX5_lead 180 = .ok (.aload_n 0, 1) := by decide +kernel
theorem dX5_lead_181 : decode cX5_lead 181 = .ok (.iload_n 1, 1) := by decide +kernel
theorem dX5_lead_182 : decode cX5_lead 182 = .ok (.invokevirtual 86, 3) := by decide +kernel
theorem dX5_lead_185 : decode cX5_lead 185 = .ok (.iload_n 3, 1) := by decide +kernel
theorem dX5_lead_186 : decode cX5_lead 186 = .ok (.ifCond .lt 11, 3) := by decide +kernel
theorem dX5_lead_189 : decode cX5_lead 189 = .ok (.aload_n 0, 1) := by decide +kernel
theorem dX5_lead_190 : decode cX5_lead 190 = .ok (.iload_n 3, 1) := by decide +kernel
theorem dX5_lead_191 : decode cX5_lead 191 = .ok (.invokevirtual 86, 3) := by decide +kernel
theorem dX5_lead_194 : decode cX5_lead 194 = .ok (.goto 19, 3) := by decide +kernel
theorem dX5_lead_197 : decode cX5_lead 197 = .ok (.iload_n 3, 1) := by decide +kernel
theorem dX5_lead_198 : decode cX5_lead 198 = .ok (.iconst (-1), 1) := by decide +kernel
theorem dX5_lead_199 : decode cX5_lead 199 = .ok (.if_icmp .ne 14, 3) := by decide +kernel
theorem dX5_lead_202 : decode cX5_lead 202 = .ok (.aload_n 0, 1) := by decide +kernel
theorem dX5_lead_203 : decode cX5_lead 203 = .ok (.dup, 1) := by decide +kernel
theorem dX5_lead_204 : decode cX5_lead 204 = .ok (.getfield 68, 3) := by decide +kernel
theorem dX5_lead_207 : decode cX5_lead 207 = .ok (.iload 5, 2) := by decide +kernel
theorem dX5_lead_209 : decode cX5_lead 209 = .ok (.iadd, 1) := by decide +kernel
theorem dX5_lead_210 : decode cX5_lead 210 = .ok (.putfield 68, 3) := by decide +kernel
theorem dX5_lead_213 : decode cX5_lead 213 = .ok (.return_, 1) := by decide +kernel
theorem dX5_draw_0 : decode cX5_draw 0 = .ok (.aload_n 0, 1) := by decide +kernel
theorem dX5_draw_1 : decode cX5_draw 1 = .ok (.aload_n 0, 1) := by decide +kernel
theorem dX5_draw_2 : decode cX5_draw 2 = .ok (.getfield 39, 3) := by decide +kernel
theorem dX5_draw_5 : decode cX5_draw 5 = .ok (.ldc 143, 2) := by decide +kernel
theorem dX5_draw_7 : decode cX5_draw 7 = .ok (.imul, 1) := by decide +kernel
theorem dX5_draw_8 : decode cX5_draw 8 = .ok (.sipush 12345, 3) := by decide +kernel
theorem dX5_draw_11 : decode cX5_draw 11 = .ok (.iadd, 1) := by decide +kernel
theorem dX5_draw_12 : decode cX5_draw 12 = .ok (.putfield 39, 3) := by decide +kernel
theorem dX5_draw_15 : decode cX5_draw 15 = .ok (.aload_n 0, 1) := by decide +kernel
theorem dX5_draw_16 : decode cX5_draw 16 = .ok (.getfield 39, 3) := by decide +kernel
theorem dX5_draw_19 : decode cX5_draw 19 = .ok (.bipush 8, 2) := by decide +kernel
theorem dX5_draw_21 : decode cX5_draw 21 = .ok (.iushr, 1) := by decide +kernel
theorem dX5_draw_22 : decode cX5_draw 22 = .ok (.ireturn, 1) := by decide +kernel
theorem dX5_drawCellar_0 : decode cX5_drawCellar 0 = .ok (.aload_n 0, 1) := by decide +kernel
theorem dX5_drawCellar_1 : decode cX5_drawCellar 1 = .ok (.invokevirtual 139, 3) := by decide +kernel
theorem dX5_drawCellar_4 : decode cX5_drawCellar 4 = .ok (.bipush 6, 2) := by decide +kernel
theorem dX5_drawCellar_6 : decode cX5_drawCellar 6 = .ok (.irem, 1) := by decide +kernel
theorem dX5_drawCellar_7 : decode cX5_drawCellar 7 = .ok (.istore_n 1, 1) := by decide +kernel
theorem dX5_drawCellar_8 : decode cX5_drawCellar 8 = .ok (.aload_n 0, 1) := by decide +kernel
theorem dX5_drawCellar_9 : decode cX5_drawCellar 9 = .ok (.invokevirtual 139, 3) := by decide +kernel
theorem dX5_drawCellar_12 : decode cX5_drawCellar 12 = .ok (.bipush 60, 2) := by decide +kernel
theorem dX5_drawCellar_14 : decode cX5_drawCellar 14 = .ok (.irem, 1) := by decide +kernel
theorem dX5_drawCellar_15 : decode cX5_drawCellar 15 = .ok (.istore_n 2, 1) := by decide +kernel
theorem dX5_drawCellar_16 : decode cX5_drawCellar 16 = .ok (.iconst 1, 1) := by decide +kernel
theorem dX5_drawCellar_17 : decode cX5_drawCellar 17 = .ok (.aload_n 0, 1) := by decide +kernel
theorem dX5_drawCellar_18 : decode cX5_drawCellar 18 = .ok (.invokevirtual 139, 3) := by decide +kernel
theorem dX5_drawCellar_21 : decode cX5_drawCellar 21 = .ok (.bipush 60, 2) := by decide +kernel
theorem dX5_drawCellar_23 : decode cX5_drawCellar 23 = .ok (.irem, 1) := by decide +kernel
theorem dX5_drawCellar_24 : decode cX5_drawCellar 24 = .ok (.iadd, 1) := by decide +kernel
theorem dX5_drawCellar_25 : decode cX5_drawCellar 25 = .ok (.istore_n 3, 1) := by decide +kernel
theorem dX5_drawCellar_26 : decode cX5_drawCellar 26 = .ok (.aload_n 0, 1) := by decide +kernel
theorem dX5_drawCellar_27 : decode cX5_drawCellar 27 = .ok (.iload_n 1, 1) := by decide +kernel
theorem dX5_drawCellar_28 : decode cX5_drawCellar 28 = .ok (.iload_n 2, 1) := by decide +kernel
theorem dX5_drawCellar_29 : decode cX5_drawCellar 29 = .ok (.iload_n 3, 1) := by decide +kernel
theorem dX5_drawCellar_30 : decode cX5_drawCellar 30 = .ok (.invokevirtual 144, 3) := by decide +kernel
theorem dX5_drawCellar_33 : decode cX5_drawCellar 33 = .ok (.istore 4, 2) := by decide +kernel
theorem dX5_drawCellar_35 : decode cX5_drawCellar 35 = .ok (.aload_n 0, 1) := by decide +kernel
theorem dX5_drawCellar_36 : decode cX5_drawCellar 36 = .ok (.getfield 21, 3) := by decide +kernel
theorem dX5_drawCellar_39 : decode cX5_drawCellar 39 = .ok (.iload 4, 2) := by decide +kernel
theorem dX5_drawCellar_41 : decode cX5_drawCellar 41 = .ok (.iconst 3, 1) := by decide +kernel
theorem dX5_drawCellar_42 : decode cX5_drawCellar 42 = .ok (.imul, 1) := by decide +kernel
theorem dX5_drawCellar_43 : decode cX5_drawCellar 43 = .ok (.iload 4, 2) := by decide +kernel
theorem dX5_drawCellar_45 : decode cX5_drawCellar 45 = .ok (.iconst 3, 1) := by decide +kernel
theorem dX5_drawCellar_46 : decode cX5_drawCellar 46 = .ok (.irem, 1) := by decide +kernel
theorem dX5_drawCellar_47 : decode cX5_drawCellar 47 = .ok (.iadd, 1) := by decide +kernel
theorem dX5_drawCellar_48 : decode cX5_drawCellar 48 = .ok (.aload_n 0, 1) := by decide +kernel
theorem dX5_drawCellar_49 : decode cX5_drawCellar 49 = .ok (.invokevirtual 139, 3) := by decide +kernel
theorem dX5_drawCellar_52 : decode cX5_drawCellar 52 = .ok (.sipush 300, 3) := by decide +kernel
theorem dX5_drawCellar_55 : decode cX5_drawCellar 55 = .ok (.irem, 1) := by decide +kernel
theorem dX5_drawCellar_56 : decode cX5_drawCellar 56 = .ok (.iastore, 1) := by decide +kernel
theorem dX5_drawCellar_57 : decode cX5_drawCellar 57 = .ok (.aload_n 0, 1) := by decide +kernel
theorem dX5_drawCellar_58 : decode cX5_drawCellar 58 = .ok (.iload 4, 2) := by decide +kernel
theorem dX5_drawCellar_60 : decode cX5_drawCellar 60 = .ok (.invokevirtual 86, 3) := by decide +kernel
theorem dX5_drawCellar_63 : decode cX5_drawCellar 63 = .ok (.return_, 1) := by decide +kernel
theorem dJ0_length_8abf5_0 : decode cJ0_length_8abf5 0 = .ok (.aload_n 0, 1) := by decide +kernel
theorem dJ0_length_8abf5_1 : decode cJ0_length_8abf5 1 = .ok (.getfield 9, 3) := by decide +kernel
theorem dJ0_length_8abf5_4 : decode cJ0_length_8abf5 4 = .ok (.arraylength, 1) := by decide +kernel
theorem dJ0_length_8abf5_5 : decode cJ0_length_8abf5 5 = .ok (.aload_n 0, 1) := by decide +kernel
theorem dJ0_length_8abf5_6 : decode cJ0_length_8abf5 6 = .ok (.invokevirtual 335, 3) := by decide +kernel
theorem dJ0_length_8abf5_9 : decode cJ0_length_8abf5 9 = .ok (.ishr, 1) := by decide +kernel
theorem dJ0_length_8abf5_10 : decode cJ0_length_8abf5 10 = .ok (.ireturn, 1) := by decide +kernel
theorem dJ0_charAt_5068e_0 : decode cJ0_charAt_5068e 0 = .ok (.aload_n 0, 1) := by decide +kernel
theorem dJ0_charAt_5068e_1 : decode cJ0_charAt_5068e 1 = .ok (.invokevirtual 492, 3) := by decide +kernel
theorem dJ0_charAt_5068e_4 : decode cJ0_charAt_5068e 4 = .ok (.ifCond .eq 12, 3) := by decide +kernel
theorem dJ0_charAt_5068e_7 : decode cJ0_charAt_5068e 7 = .ok (.aload_n 0, 1) := by decide +kernel
theorem dJ0_charAt_5068e_8 : decode cJ0_charAt_5068e 8 = .ok (.getfield 9, 3) := by decide +kernel
theorem dJ0_charAt_5068e_11 : decode cJ0_charAt_5068e 11 = .ok (.iload_n 1, 1) := by decide +kernel
theorem dJ0_charAt_5068e_12 : decode cJ0_charAt_5068e 12 = .ok (.invokestatic 495, 3) := by decide +kernel
theorem dJ0_charAt_5068e_15 : decode cJ0_charAt_5068e 15 = .ok (.ireturn, 1) := by decide +kernel
theorem dJ0_charAt_5068e_16 : decode cJ0_charAt_5068e 16 = .ok (.aload_n 0, 1) := by decide +kernel
theorem dJ0_charAt_5068e_17 : decode cJ0_charAt_5068e 17 = .ok (.getfield 9, 3) := by decide +kernel
theorem dJ0_charAt_5068e_20 : decode cJ0_charAt_5068e 20 = .ok (.iload_n 1, 1) := by decide +kernel
theorem dJ0_charAt_5068e_21 : decode cJ0_charAt_5068e 21 = .ok (.invokestatic 498, 3) := by decide +kernel
theorem dJ0_charAt_5068e_24 : decode cJ0_charAt_5068e 24 = .ok (.ireturn, 1) := by decide +kernel
theorem dJ0_indexOf_0f7a4_0 : decode cJ0_indexOf_0f7a4 0 = .ok (.aload_n 0, 1) := by decide +kernel
theorem dJ0_indexOf_0f7a4_1 : decode cJ0_indexOf_0f7a4 1 = .ok (.iload_n 1, 1) := by decide +kernel
theorem dJ0_indexOf_0f7a4_2 : decode cJ0_indexOf_0f7a4 2 = .ok (.iconst 0, 1) := by decide +kernel
theorem dJ0_indexOf_0f7a4_3 : decode cJ0_indexOf_0f7a4 3 = .ok (.invokevirtual 633, 3) := by decide +kernel
theorem dJ0_indexOf_0f7a4_6 : decode cJ0_indexOf_0f7a4 6 = .ok (.ireturn, 1) := by decide +kernel
theorem dJ0_indexOf_7cf53_0 : decode cJ0_indexOf_7cf53 0 = .ok (.aload_n 0, 1) := by decide +kernel
theorem dJ0_indexOf_7cf53_1 : decode cJ0_indexOf_7cf53 1 = .ok (.invokevirtual 492, 3) := by decide +kernel
theorem dJ0_indexOf_7cf53_4 : decode cJ0_indexOf_7cf53 4 = .ok (.ifCond .eq 19, 3) := by decide +kernel
theorem dJ0_indexOf_7cf53_7 : decode cJ0_indexOf_7cf53 7 = .ok (.aload_n 0, 1) := by decide +kernel
theorem dJ0_indexOf_7cf53_8 : decode cJ0_indexOf_7cf53 8 = .ok (.getfield 9, 3) := by decide +kernel
theorem dJ0_indexOf_7cf53_11 : decode cJ0_indexOf_7cf53 11 = .ok (.iload_n 1, 1) := by decide +kernel
theorem dJ0_indexOf_7cf53_12 : decode cJ0_indexOf_7cf53 12 = .ok (.iload_n 2, 1) := by decide +kernel
theorem dJ0_indexOf_7cf53_13 : decode cJ0_indexOf_7cf53 13 = .ok (.aload_n 0, 1) := by decide +kernel
theorem dJ0_indexOf_7cf53_14 : decode cJ0_indexOf_7cf53 14 = .ok (.invokevirtual 505, 3) := by decide +kernel
theorem dJ0_indexOf_7cf53_17 : decode cJ0_indexOf_7cf53 17 = .ok (.invokestatic 637, 3) := by decide +kernel
theorem dJ0_indexOf_7cf53_20 : decode cJ0_indexOf_7cf53 20 = .ok (.goto 16, 3) := by decide +kernel
theorem dJ0_indexOf_7cf53_23 : decode cJ0_indexOf_7cf53 23 = .ok (.aload_n 0, 1) := by decide +kernel
theorem dJ0_indexOf_7cf53_24 : decode cJ0_indexOf_7cf53 24 = .ok (.getfield 9, 3) := by decide +kernel
theorem dJ0_indexOf_7cf53_27 : decode cJ0_indexOf_7cf53 27 = .ok (.iload_n 1, 1) := by decide +kernel
theorem dJ0_indexOf_7cf53_28 : decode cJ0_indexOf_7cf53 28 = .ok (.iload_n 2, 1) := by decide +kernel
theorem dJ0_indexOf_7cf53_29 : decode cJ0_indexOf_7cf53 29 = .ok (.aload_n 0, 1) := by decide +kernel
theorem dJ0_indexOf_7cf53_30 : decode cJ0_indexOf_7cf53 30 = .ok (.invokevirtual 505, 3) := by decide +kernel
theorem dJ0_indexOf_7cf53_33 : decode cJ0_indexOf_7cf53 33 = .ok (.invokestatic 640, 3) := by decide +kernel
theorem dJ0_indexOf_7cf53_36 : decode cJ0_indexOf_7cf53 36 = .ok (.ireturn, 1) := by decide +kernel
theorem dJ0_coder_7d493_0 : decode cJ0_coder_7d493 0 = .ok (.getstatic 38, 3) := by decide +kernel
theorem dJ0_coder_7d493_3 : decode cJ0_coder_7d493 3 = .ok (.ifCond .eq 10, 3) := by decide +kernel
theorem dJ0_coder_7d493_6 : decode cJ0_coder_7d493 6 = .ok (.aload_n 0, 1) := by decide +kernel
theorem dJ0_coder_7d493_7 : decode cJ0_coder_7d493 7 = .ok (.getfield 15, 3) := by decide +kernel
theorem dJ0_coder_7d493_10 : decode cJ0_coder_7d493 10 = .ok (.goto 4, 3) := by decide +kernel
theorem dJ0_coder_7d493_13 : decode cJ0_coder_7d493 13 = .ok (.iconst 1, 1) := by decide +kernel
theorem dJ0_coder_7d493_14 : decode cJ0_coder_7d493 14 = .ok (.ireturn, 1) := by decide +kernel
theorem dJ0_isLatin1_aae02_0 : decode cJ0_isLatin1_aae02 0 = .ok (.getstatic 38, 3) := by decide +kernel
theorem dJ0_isLatin1_aae02_3 : decode cJ0_isLatin1_aae02 3 = .ok (.ifCond .eq 14, 3) := by decide +kernel
theorem dJ0_isLatin1_aae02_6 : decode cJ0_isLatin1_aae02 6 = .ok (.aload_n 0, 1) := by decide +kernel
theorem dJ0_isLatin1_aae02_7 : decode cJ0_isLatin1_aae02 7 = .ok (.getfield 15, 3) := by decide +kernel
theorem dJ0_isLatin1_aae02_10 : decode cJ0_isLatin1_aae02 10 = .ok (.ifCond .ne 7, 3) := by decide +kernel
theorem dJ0_isLatin1_aae02_13 : decode cJ0_isLatin1_aae02 13 = .ok (.iconst 1, 1) := by decide +kernel
theorem dJ0_isLatin1_aae02_14 : decode cJ0_isLatin1_aae02 14 = .ok (.goto 4, 3) := by decide +kernel
theorem dJ0_isLatin1_aae02_17 : decode cJ0_isLatin1_aae02 17 = .ok (.iconst 0, 1) := by decide +kernel
theorem dJ0_isLatin1_aae02_18 : decode cJ0_isLatin1_aae02 18 = .ok (.ireturn, 1) := by decide +kernel
theorem dJ0_checkIndex_df160_0 : decode cJ0_checkIndex_df160 0 = .ok (.iload_n 0, 1) := by decide +kernel
theorem dJ0_checkIndex_df160_1 : decode cJ0_checkIndex_df160 1 = .ok (.iload_n 1, 1) := by decide +kernel
theorem dJ0_checkIndex_df160_2 : decode cJ0_checkIndex_df160 2 = .ok (.getstatic 1053, 3) := by decide +kernel
theorem dJ0_checkIndex_df160_5 : decode cJ0_checkIndex_df160 5 = .ok (.invokestatic 1059, 3) := by decide +kernel
theorem dJ0_checkIndex_df160_8 : decode cJ0_checkIndex_df160 8 = .ok (.pop, 1) := by decide +kernel
theorem dJ0_checkIndex_df160_9 : decode cJ0_checkIndex_df160 9 = .ok (.return_, 1) := by decide +kernel
theorem dJ0_checkBoundsBeginEnd_23922_0 : decode cJ0_checkBoundsBeginEnd_23922 0 = .ok (.iload_n 0, 1) := by decide +kernel
theorem dJ0_checkBoundsBeginEnd_23922_1 : decode cJ0_checkBoundsBeginEnd_23922 1 = .ok (.iload_n 1, 1) := by decide +kernel
theorem dJ0_checkBoundsBeginEnd_23922_2 : decode cJ0_checkBoundsBeginEnd_23922 2 = .ok (.iload_n 2, 1) := by decide +kernel
theorem dJ0_checkBoundsBeginEnd_23922_3 : decode cJ0_checkBoundsBeginEnd_23922 3 = .ok (.getstatic 1053, 3) := by decide +kernel
theorem dJ0_checkBoundsBeginEnd_23922_6 : decode cJ0_checkBoundsBeginEnd_23922 6 = .ok (.invokestatic 1062, 3) := by decide +kernel
theorem dJ0_checkBoundsBeginEnd_23922_9 : decode cJ0_checkBoundsBeginEnd_23922 9 = .ok (.pop, 1) := by decide +kernel
theorem dJ0_checkBoundsBeginEnd_23922_10 : decode cJ0_checkBoundsBeginEnd_23922 10 = .ok (.return_, 1) := by decide +kernel
theorem dJ1_charAt_3b067_0 : decode cJ1_charAt_3b067 0 = .ok (.iload_n 1, 1) := by decide +kernel
theorem dJ1_charAt_3b067_1 : decode cJ1_charAt_3b067 1 = .ok (.aload_n 0, 1) := by decide +kernel
theorem dJ1_charAt_3b067_2 : decode cJ1_charAt_3b067 2 = .ok (.arraylength, 1) := by decide +kernel
theorem dJ1_charAt_3b067_3 : decode cJ1_charAt_3b067 3 = .ok (.invokestatic 9, 3) := by decide +kernel
theorem dJ1_charAt_3b067_6 : decode cJ1_charAt_3b067 6 = .ok (.aload_n 0, 1) := by decide +kernel
theorem dJ1_charAt_3b067_7 : decode cJ1_charAt_3b067 7 = .ok (.iload_n 1, 1) := by decide +kernel
theorem dJ1_charAt_3b067_8 : decode cJ1_charAt_3b067 8 = .ok (.baload, 1) := by decide +kernel
theorem dJ1_charAt_3b067_9 : decode cJ1_charAt_3b067 9 = .ok (.sipush 255, 3) := by decide +kernel
theorem dJ1_charAt_3b067_12 : decode cJ1_charAt_3b067 12 = .ok (.iand, 1) := by decide +kernel
theorem dJ1_charAt_3b067_13 : decode cJ1_charAt_3b067 13 = .ok (.i2c, 1) := by decide +kernel
theorem dJ1_charAt_3b067_14 : decode cJ1_charAt_3b067 14 = .ok (.ireturn, 1) := by decide +kernel
theorem dJ1_canEncode_9a6ad_0 : decode cJ1_canEncode_9a6ad 0 = .ok (.iload_n 0, 1) := by decide +kernel
theorem dJ1_canEncode_9a6ad_1 : decode cJ1_canEncode_9a6ad 1 = .ok (.ifCond .lt 14, 3) := by decide +kernel
theorem dJ1_canEncode_9a6ad_4 : decode cJ1_canEncode_9a6ad 4 = .ok (.iload_n 0, 1) := by decide +kernel
theorem dJ1_canEncode_9a6ad_5 : decode cJ1_canEncode_9a6ad 5 = .ok (.sipush 255, 3) := by decide +kernel
theorem dJ1_canEncode_9a6ad_8 : decode cJ1_canEncode_9a6ad 8 = .ok (.if_icmp .gt 7, 3) := by decide +kernel
theorem dJ1_canEncode_9a6ad_11 : decode cJ1_canEncode_9a6ad 11 = .ok (.iconst 1, 1) := by decide +kernel
theorem dJ1_canEncode_9a6ad_12 : decode cJ1_canEncode_9a6ad 12 = .ok (.goto 4, 3) := by decide +kernel
theorem dJ1_canEncode_9a6ad_15 : decode cJ1_canEncode_9a6ad 15 = .ok (.iconst 0, 1) := by decide +kernel
theorem dJ1_canEncode_9a6ad_16 : decode cJ1_canEncode_9a6ad 16 = .ok (.ireturn, 1) := by decide +kernel
theorem dJ1_indexOf_4cfef_0 : decode cJ1_indexOf_4cfef 0 = .ok (.iload_n 1, 1) := by decide +kernel
theorem dJ1_indexOf_4cfef_1 : decode cJ1_indexOf_4cfef 1 = .ok (.invokestatic 88, 3) := by decide +kernel
theorem dJ1_indexOf_4cfef_4 : decode cJ1_indexOf_4cfef 4 = .ok (.ifCond .ne 5, 3) := by decide +kernel
theorem dJ1_indexOf_4cfef_7 : decode cJ1_indexOf_4cfef 7 = .ok (.iconst (-1), 1) := by decide +kernel
theorem dJ1_indexOf_4cfef_8 : decode cJ1_indexOf_4cfef 8 = .ok (.ireturn, 1) := by decide +kernel
theorem dJ1_indexOf_4cfef_9 : decode cJ1_indexOf_4cfef 9 = .ok (.iload_n 2, 1) := by decide +kernel
theorem dJ1_indexOf_4cfef_10 : decode cJ1_indexOf_4cfef 10 = .ok (.iconst 0, 1) := by decide +kernel
theorem dJ1_indexOf_4cfef_11 : decode cJ1_indexOf_4cfef 11 = .ok (.invokestatic 92, 3) := by decide +kernel
theorem dJ1_indexOf_4cfef_14 : decode cJ1_indexOf_4cfef 14 = .ok (.istore_n 2, 1) := by decide +kernel
theorem dJ1_indexOf_4cfef_15 : decode cJ1_indexOf_4cfef 15 = .ok (.iload_n 3, 1) := by decide +kernel
theorem dJ1_indexOf_4cfef_16 : decode cJ1_indexOf_4cfef 16 = .ok (.aload_n 0, 1) := by decide +kernel
theorem dJ1_indexOf_4cfef_17 : decode cJ1_indexOf_4cfef 17 = .ok (.arraylength, 1) := by decide +kernel
theorem dJ1_indexOf_4cfef_18 : decode cJ1_indexOf_4cfef 18 = .ok (.invokestatic 38, 3) := by decide +kernel
theorem dJ1_indexOf_4cfef_21 : decode cJ1_indexOf_4cfef 21 = .ok (.istore_n 3, 1) := by decide +kernel
theorem dJ1_indexOf_4cfef_22 : decode cJ1_indexOf_4cfef 22 = .ok (.iload_n 2, 1) := by decide +kernel
theorem dJ1_indexOf_4cfef_23 : decode cJ1_indexOf_4cfef 23 = .ok (.iload_n 3, 1) := by decide +kernel
theorem dJ1_indexOf_4cfef_24 : decode cJ1_indexOf_4cfef 24 = .ok (.if_icmp .lt 5, 3) := by decide +kernel
theorem dJ1_indexOf_4cfef_27 : decode cJ1_indexOf_4cfef 27 = .ok (.iconst (-1), 1) := by decide +kernel
theorem dJ1_indexOf_4cfef_28 : decode cJ1_indexOf_4cfef 28 = .ok (.ireturn, 1) := by decide +kernel
theorem dJ1_indexOf_4cfef_29 : decode cJ1_indexOf_4cfef 29 = .ok (.aload_n 0, 1) := by decide +kernel
theorem dJ1_indexOf_4cfef_30 : decode cJ1_indexOf_4cfef 30 = .ok (.iload_n 1, 1) := by decide +kernel
theorem dJ1_indexOf_4cfef_31 : decode cJ1_indexOf_4cfef 31 = .ok (.iload_n 2, 1) := by decide +kernel
theorem dJ1_indexOf_4cfef_32 : decode cJ1_indexOf_4cfef 32 = .ok (.iload_n 3, 1) := by decide +kernel
theorem dJ1_indexOf_4cfef_33 : decode cJ1_indexOf_4cfef 33 = .ok (.invokestatic 95, 3) := by decide +kernel
theorem dJ1_indexOf_4cfef_36 : decode cJ1_indexOf_4cfef 36 = .ok (.ireturn, 1) := by decide +kernel
theorem dJ1_indexOfChar_4cfef_0 : decode cJ1_indexOfChar_4cfef 0 = .ok (.iload_n 1, 1) := by decide +kernel
theorem dJ1_indexOfChar_4cfef_1 : decode cJ1_indexOfChar_4cfef 1 = .ok (.i2b, 1) := by decide +kernel
theorem dJ1_indexOfChar_4cfef_2 : decode cJ1_indexOfChar_4cfef 2 = .ok (.istore 4, 2) := by decide +kernel
theorem dJ1_indexOfChar_4cfef_4 : decode cJ1_indexOfChar_4cfef 4 = .ok (.iload_n 2, 1) := by decide +kernel
theorem dJ1_indexOfChar_4cfef_5 : decode cJ1_indexOfChar_4cfef 5 = .ok (.istore 5, 2) := by decide +kernel
theorem dJ1_indexOfChar_4cfef_7 : decode cJ1_indexOfChar_4cfef 7 = .ok (.iload 5, 2) := by decide +kernel
theorem dJ1_indexOfChar_4cfef_9 : decode cJ1_indexOfChar_4cfef 9 = .ok (.iload_n 3, 1) := by decide +kernel
theorem dJ1_indexOfChar_4cfef_10 : decode cJ1_indexOfChar_4cfef 10 = .ok (.if_icmp .ge 21, 3) := by decide +kernel
theorem dJ1_indexOfChar_4cfef_13 : decode cJ1_indexOfChar_4cfef 13 = .ok (.aload_n 0, 1) := by decide +kernel
theorem dJ1_indexOfChar_4cfef_14 : decode cJ1_indexOfChar_4cfef 14 = .ok (.iload 5, 2) := by decide +kernel
theorem dJ1_indexOfChar_4cfef_16 : decode cJ1_indexOfChar_4cfef 16 = .ok (.baload, 1) := by decide +kernel
theorem dJ1_indexOfChar_4cfef_17 : decode cJ1_indexOfChar_4cfef 17 = .ok (.iload 4, 2) := by decide +kernel
theorem dJ1_indexOfChar_4cfef_19 : decode cJ1_indexOfChar_4cfef 19 = .ok (.if_icmp .ne 6, 3) := by decide +kernel
theorem dJ1_indexOfChar_4cfef_22 : decode cJ1_indexOfChar_4cfef 22 = .ok (.iload 5, 2) := by decide +kernel
theorem dJ1_indexOfChar_4cfef_24 : decode cJ1_indexOfChar_4cfef 24 = .ok (.ireturn, 1) := by decide +kernel
theorem dJ1_indexOfChar_4cfef_25 : decode cJ1_indexOfChar_4cfef 25 = .ok (.iinc 5 1, 3) := by decide +kernel
theorem dJ1_indexOfChar_4cfef_28 : decode cJ1_indexOfChar_4cfef 28 = .ok (.goto (-21), 3) := by decide +kernel
theorem dJ1_indexOfChar_4cfef_31 : decode cJ1_indexOfChar_4cfef 31 = .ok (.iconst (-1), 1) := by decide +kernel
theorem dJ1_indexOfChar_4cfef_32 : decode cJ1_indexOfChar_4cfef 32 = .ok (.ireturn, 1) := by decide +kernel
theorem dJ3_checkIndex_8e157_0 : decode cJ3_checkIndex_8e157 0 = .ok (.iload_n 0, 1) := by decide +kernel
theorem dJ3_checkIndex_8e157_1 : decode cJ3_checkIndex_8e157 1 = .ok (.ifCond .lt 8, 3) := by decide +kernel
theorem dJ3_checkIndex_8e157_4 : decode cJ3_checkIndex_8e157 4 = .ok (.iload_n 0, 1) := by decide +kernel
theorem dJ3_checkIndex_8e157_5 : decode cJ3_checkIndex_8e157 5 = .ok (.iload_n 1, 1) := by decide +kernel
theorem dJ3_checkIndex_8e157_6 : decode cJ3_checkIndex_8e157 6 = .ok (.if_icmp .lt 10, 3) := by decide +kernel
theorem dJ3_checkIndex_8e157_9 : decode cJ3_checkIndex_8e157 9 = .ok (.aload_n 2, 1) := by decide +kernel
theorem dJ3_checkIndex_8e157_10 : decode cJ3_checkIndex_8e157 10 = .ok (.iload_n 0, 1) := by decide +kernel
theorem dJ3_checkIndex_8e157_11 : decode cJ3_checkIndex_8e157 11 = .ok (.iload_n 1, 1) := by decide +kernel
theorem dJ3_checkIndex_8e157_12 : decode cJ3_checkIndex_8e157 12 = .ok (.invokestatic 95, 3) := by decide +kernel
theorem dJ3_checkIndex_8e157_15 : decode cJ3_checkIndex_8e157 15 = .ok (.athrow, 1) := by decide +kernel
theorem dJ3_checkIndex_8e157_16 : decode cJ3_checkIndex_8e157 16 = .ok (.iload_n 0, 1) := by decide +kernel
theorem dJ3_checkIndex_8e157_17 : decode cJ3_checkIndex_8e157 17 = .ok (.ireturn, 1) := by decide +kernel
theorem dJ3_checkFromToIndex_8c36e_0 : decode cJ3_checkFromToIndex_8c36e 0 = .ok (.iload_n 0, 1) := by decide +kernel
theorem dJ3_checkFromToIndex_8c36e_1 : decode cJ3_checkFromToIndex_8c36e 1 = .ok (.ifCond .lt 13, 3) := by decide +kernel
theorem dJ3_checkFromToIndex_8c36e_4 : decode cJ3_checkFromToIndex_8c36e 4 = .ok (.iload_n 0, 1) := by decide +kernel
theorem dJ3_checkFromToIndex_8c36e_5 : decode cJ3_checkFromToIndex_8c36e 5 = .ok (.iload_n 1, 1) := by decide +kernel
theorem dJ3_checkFromToIndex_8c36e_6 : decode cJ3_checkFromToIndex_8c36e 6 = .ok (.if_icmp .gt 8, 3) := by decide +kernel
theorem dJ3_checkFromToIndex_8c36e_9 : decode cJ3_checkFromToIndex_8c36e 9 = .ok (.iload_n 1, 1) := by decide +kernel
theorem dJ3_checkFromToIndex_8c36e_10 : decode cJ3_checkFromToIndex_8c36e 10 = .ok (.iload_n 2, 1) := by decide +kernel
theorem dJ3_checkFromToIndex_8c36e_11 : decode cJ3_checkFromToIndex_8c36e 11 = .ok (.if_icmp .le 11, 3) := by decide +kernel
theorem dJ3_checkFromToIndex_8c36e_14 : decode cJ3_checkFromToIndex_8c36e 14 = .ok (.aload_n 3, 1) := by decide +kernel
theorem dJ3_checkFromToIndex_8c36e_15 : decode cJ3_checkFromToIndex_8c36e 15 = .ok (.iload_n 0, 1) := by decide +kernel
theorem dJ3_checkFromToIndex_8c36e_16 : decode cJ3_checkFromToIndex_8c36e 16 = .ok (.iload_n 1, 1) := by decide +kernel
theorem dJ3_checkFromToIndex_8c36e_17 : decode cJ3_checkFromToIndex_8c36e 17 = .ok (.iload_n 2, 1) := by decide +kernel
theorem dJ3_checkFromToIndex_8c36e_18 : decode cJ3_checkFromToIndex_8c36e 18 = .ok (.invokestatic 99, 3) := by decide +kernel
theorem dJ3_checkFromToIndex_8c36e_21 : decode cJ3_checkFromToIndex_8c36e 21 = .ok (.athrow, 1) := by decide +kernel
theorem dJ3_checkFromToIndex_8c36e_22 : decode cJ3_checkFromToIndex_8c36e 22 = .ok (.iload_n 0, 1) := by decide +kernel
theorem dJ3_checkFromToIndex_8c36e_23 : decode cJ3_checkFromToIndex_8c36e 23 = .ok (.ireturn, 1) := by decide +kernel
theorem dJ9_abs_0f7a4_0 : decode cJ9_abs_0f7a4 0 = .ok (.iload_n 0, 1) := by decide +kernel
theorem dJ9_abs_0f7a4_1 : decode cJ9_abs_0f7a4 1 = .ok (.ifCond .ge 8, 3) := by decide +kernel
theorem dJ9_abs_0f7a4_4 : decode cJ9_abs_0f7a4 4 = .ok (.iload_n 0, 1) := by decide +kernel
theorem dJ9_abs_0f7a4_5 : decode cJ9_abs_0f7a4 5 = .ok (.ineg, 1) := by decide +kernel
theorem dJ9_abs_0f7a4_6 : decode cJ9_abs_0f7a4 6 = .ok (.goto 4, 3) := by decide +kernel
theorem dJ9_abs_0f7a4_9 : decode cJ9_abs_0f7a4 9 = .ok (.iload_n 0, 1) := by decide +kernel
theorem dJ9_abs_0f7a4_10 : decode cJ9_abs_0f7a4 10 = .ok (.ireturn, 1) := by decide +kernel
theorem dJ9_max_7cf53_0 : decode cJ9_max_7cf53 0 = .ok (.iload_n 0, 1) := by decide +kernel
theorem dJ9_max_7cf53_1 : decode cJ9_max_7cf53 1 = .ok (.iload_n 1, 1) := by decide +kernel
theorem dJ9_max_7cf53_2 : decode cJ9_max_7cf53 2 = .ok (.if_icmp .lt 7, 3) := by decide +kernel
theorem dJ9_max_7cf53_5 : decode cJ9_max_7cf53 5 = .ok (.iload_n 0, 1) := by decide +kernel
theorem dJ9_max_7cf53_6 : decode cJ9_max_7cf53 6 = .ok (.goto 4, 3) := by decide +kernel
theorem dJ9_max_7cf53_9 : decode cJ9_max_7cf53 9 = .ok (.iload_n 1, 1) := by decide +kernel
theorem dJ9_max_7cf53_10 : decode cJ9_max_7cf53 10 = .ok (.ireturn, 1) := by decide +kernel
theorem dJ9_min_7cf53_0 : decode cJ9_min_7cf53 0 = .ok (.iload_n 0, 1) := by decide +kernel
theorem dJ9_min_7cf53_1 : decode cJ9_min_7cf53 1 = .ok (.iload_n 1, 1) := by decide +kernel
theorem dJ9_min_7cf53_2 : decode cJ9_min_7cf53 2 = .ok (.if_icmp .gt 7, 3) := by decide +kernel
theorem dJ9_min_7cf53_5 : decode cJ9_min_7cf53 5 = .ok (.iload_n 0, 1) := by decide +kernel
theorem dJ9_min_7cf53_6 : decode cJ9_min_7cf53 6 = .ok (.goto 4, 3) := by decide +kernel
theorem dJ9_min_7cf53_9 : decode cJ9_min_7cf53 9 = .ok (.iload_n 1, 1) := by decide +kernel
theorem dJ9_min_7cf53_10 : decode cJ9_min_7cf53 10 = .ok (.ireturn, 1) := by decide +kernel
