theorem dJ6_bitCount_0f7a4_0 : decode cJ6_bitCount_0f7a4 0 = .ok (.iload_n 0, 1) := by decide +kernel
theorem dJ6_bitCount_0f7a4_1 : decode cJ6_bitCount_0f7a4 1 = .ok (.iload_n 0, 1) := by decide +kernel
theorem dJ6_bitCount_0f7a4_2 : decode cJ6_bitCount_0f7a4 2 = .ok (.iconst 1, 1) := by decide +kernel
theorem dJ6_bitCount_0f7a4_3 : decode cJ6_bitCount_0f7a4 3 = .ok (.iushr, 1) := by decide +kernel
theorem dJ6_bitCount_0f7a4_4 : decode cJ6_bitCount_0f7a4 4 = .ok (.ldc_w 265, 3) := by decide +kernel
theorem dJ6_bitCount_0f7a4_7 : decode cJ6_bitCount_0f7a4 7 = .ok (.iand, 1) := by decide +kernel
theorem dJ6_bitCount_0f7a4_8 : decode cJ6_bitCount_0f7a4 8 = .ok (.isub, 1) := by decide +kernel
theorem dJ6_bitCount_0f7a4_9 : decode cJ6_bitCount_0f7a4 9 = .ok (.istore_n 0, 1) := by decide +kernel
theorem dJ6_bitCount_0f7a4_10 : decode cJ6_bitCount_0f7a4 10 = .ok (.iload_n 0, 1) := by decide +kernel
theorem dJ6_bitCount_0f7a4_11 : decode cJ6_bitCount_0f7a4 11 = .ok (.ldc_w 266, 3) := by decide +kernel
theorem dJ6_bitCount_0f7a4_14 : decode cJ6_bitCount_0f7a4 14 = .ok (.iand, 1) := by decide +kernel
theorem dJ6_bitCount_0f7a4_15 : decode cJ6_bitCount_0f7a4 15 = .ok (.iload_n 0, 1) := by decide +kernel
theorem dJ6_bitCount_0f7a4_16 : decode cJ6_bitCount_0f7a4 16 = .ok (.iconst 2, 1) := by decide +kernel
theorem dJ6_bitCount_0f7a4_17 : decode cJ6_bitCount_0f7a4 17 = .ok (.iushr, 1) := by decide +kernel
theorem dJ6_bitCount_0f7a4_18 : decode cJ6_bitCount_0f7a4 18 = .ok (.ldc_w 266, 3) := by decide +kernel
theorem dJ6_bitCount_0f7a4_21 : decode cJ6_bitCount_0f7a4 21 = .ok (.iand, 1) := by decide +kernel
theorem dJ6_bitCount_0f7a4_22 : decode cJ6_bitCount_0f7a4 22 = .ok (.iadd, 1) := by decide +kernel
theorem dJ6_bitCount_0f7a4_23 : decode cJ6_bitCount_0f7a4 23 = .ok (.istore_n 0, 1) := by decide +kernel
theorem dJ6_bitCount_0f7a4_24 : decode cJ6_bitCount_0f7a4 24 = .ok (.iload_n 0, 1) := by decide +kernel
theorem dJ6_bitCount_0f7a4_25 : decode cJ6_bitCount_0f7a4 25 = .ok (.iload_n 0, 1) := by decide +kernel
theorem dJ6_bitCount_0f7a4_26 : decode cJ6_bitCount_0f7a4 26 = .ok (.iconst 4, 1) := by decide +kernel
theorem dJ6_bitCount_0f7a4_27 : decode cJ6_bitCount_0f7a4 27 = .ok (.iushr, 1) := by decide +kernel
theorem dJ6_bitCount_0f7a4_28 : decode cJ6_bitCount_0f7a4 28 = .ok (.iadd, 1) := by decide +kernel
theorem dJ6_bitCount_0f7a4_29 : decode cJ6_bitCount_0f7a4 29 = .ok (.ldc_w 267, 3) := by decide +kernel
theorem dJ6_bitCount_0f7a4_32 : decode cJ6_bitCount_0f7a4 32 = .ok (.iand, 1) := by decide +kernel
theorem dJ6_bitCount_0f7a4_33 : decode cJ6_bitCount_0f7a4 33 = .ok (.istore_n 0, 1) := by decide +kernel
theorem dJ6_bitCount_0f7a4_34 : decode cJ6_bitCount_0f7a4 34 = .ok (.iload_n 0, 1) := by decide +kernel
theorem dJ6_bitCount_0f7a4_35 : decode cJ6_bitCount_0f7a4 35 = .ok (.iload_n 0, 1) := by decide +kernel
theorem dJ6_bitCount_0f7a4_36 : decode cJ6_bitCount_0f7a4 36 = .ok (.bipush 8, 2) := by decide +kernel
theorem dJ6_bitCount_0f7a4_38 : decode cJ6_bitCount_0f7a4 38 = .ok (.iushr, 1) := by decide +kernel
theorem dJ6_bitCount_0f7a4_39 : decode cJ6_bitCount_0f7a4 39 = .ok (.iadd, 1) := by decide +kernel
theorem dJ6_bitCount_0f7a4_40 : decode cJ6_bitCount_0f7a4 40 = .ok (.istore_n 0, 1) := by decide +kernel
theorem dJ6_bitCount_0f7a4_41 : decode cJ6_bitCount_0f7a4 41 = .ok (.iload_n 0, 1) := by decide +kernel
theorem dJ6_bitCount_0f7a4_42 : decode cJ6_bitCount_0f7a4 42 = .ok (.iload_n 0, 1) := by decide +kernel
theorem dJ6_bitCount_0f7a4_43 : decode cJ6_bitCount_0f7a4 43 = .ok (.bipush 16, 2) := by decide +kernel
theorem dJ6_bitCount_0f7a4_45 : decode cJ6_bitCount_0f7a4 45 = .ok (.iushr, 1) := by decide +kernel
theorem dJ6_bitCount_0f7a4_46 : decode cJ6_bitCount_0f7a4 46 = .ok (.iadd, 1) := by decide +kernel
theorem dJ6_bitCount_0f7a4_47 : decode cJ6_bitCount_0f7a4 47 = .ok (.istore_n 0, 1) := by decide +kernel
theorem dJ6_bitCount_0f7a4_48 : decode cJ6_bitCount_0f7a4 48 = .ok (.iload_n 0, 1) := by decide +kernel
theorem dJ6_bitCount_0f7a4_49 : decode cJ6_bitCount_0f7a4 49 = .ok (.bipush 63, 2) := by decide +kernel
theorem dJ6_bitCount_0f7a4_51 : decode cJ6_bitCount_0f7a4 51 = .ok (.iand, 1) := by decide +kernel
theorem dJ6_bitCount_0f7a4_52 : decode cJ6_bitCount_0f7a4 52 = .ok (.ireturn, 1) := by decide +kernel
theorem dX3_property_0 : decode cX3_property 0 = .ok (.iload_n 1, 1) := by decide +kernel
theorem dX3_property_1 : decode cX3_property 1 = .ok (.tableswitch 69 0 5 #[39, 44, 49, 54, 59, 64], 39) := by decide +kernel
theorem dX3_property_40 : decode cX3_property 40 = .ok (.aload_n 0, 1) := by decide +kernel
theorem dX3_property_41 : decode cX3_property 41 = .ok (.getfield 28, 3) := by decide +kernel
theorem dX3_property_44 : decode cX3_property 44 = .ok (.ireturn, 1) := by decide +kernel
theorem dX3_property_45 : decode cX3_property 45 = .ok (.aload_n 0, 1) := by decide +kernel
theorem dX3_property_46 : decode cX3_property 46 = .ok (.getfield 31, 3) := by decide +kernel
theorem dX3_property_49 : decode cX3_property 49 = .ok (.ireturn, 1) := by decide +kernel
theorem dX3_property_50 : decode cX3_property 50 = .ok (.aload_n 0, 1) := by decide +kernel
theorem dX3_property_51 : decode cX3_property 51 = .ok (.getfield 34, 3) := by decide +kernel
theorem dX3_property_54 : decode cX3_property 54 = .ok (.ireturn, 1) := by decide +kernel
theorem dX3_property_55 : decode cX3_property 55 = .ok (.aload_n 0, 1) := by decide +kernel
theorem dX3_property_56 : decode cX3_property 56 = .ok (.getfield 17, 3) := by decide +kernel
theorem dX3_property_59 : decode cX3_property 59 = .ok (.ireturn, 1) := by decide +kernel
theorem dX3_property_60 : decode cX3_property 60 = .ok (.aload_n 0, 1) := by decide +kernel
theorem dX3_property_61 : decode cX3_property 61 = .ok (.getfield 21, 3) := by decide +kernel
theorem dX3_property_64 : decode cX3_property 64 = .ok (.ireturn, 1) := by decide +kernel
theorem dX3_property_65 : decode cX3_property 65 = .ok (.aload_n 0, 1) := by decide +kernel
theorem dX3_property_66 : decode cX3_property 66 = .ok (.getfield 24, 3) := by decide +kernel
theorem dX3_property_69 : decode cX3_property 69 = .ok (.ireturn, 1) := by decide +kernel
theorem dX3_property_70 : decode cX3_property 70 = .ok (.iconst (-1), 1) := by decide +kernel
theorem dX3_property_71 : decode cX3_property 71 = .ok (.ireturn, 1) := by decide +kernel
theorem dX3_literals_0 : decode cX3_literals 0 = .ok (.aload_n 0, 1) := by decide +kernel
theorem dX3_literals_1 : decode cX3_literals 1 = .ok (.getfield 28, 3) := by decide +kernel
theorem dX3_literals_4 : decode cX3_literals 4 = .ok (.invokestatic 37, 3) := by decide +kernel
theorem dX3_literals_7 : decode cX3_literals 7 = .ok (.aload_n 0, 1) := by decide +kernel
theorem dX3_literals_8 : decode cX3_literals 8 = .ok (.getfield 31, 3) := by decide +kernel
theorem dX3_literals_11 : decode cX3_literals 11 = .ok (.invokestatic 37, 3) := by decide +kernel
theorem dX3_literals_14 : decode cX3_literals 14 = .ok (.iadd, 1) := by decide +kernel
theorem dX3_literals_15 : decode cX3_literals 15 = .ok (.ireturn, 1) := by decide +kernel
theorem dX3_letters_0 : decode cX3_letters 0 = .ok (.aload_n 0, 1) := by decide +kernel
theorem dX3_letters_1 : decode cX3_letters 1 = .ok (.getfield 28, 3) := by decide +kernel
theorem dX3_letters_4 : decode cX3_letters 4 = .ok (.aload_n 0, 1) := by decide +kernel
theorem dX3_letters_5 : decode cX3_letters 5 = .ok (.getfield 31, 3) := by decide +kernel
theorem dX3_letters_8 : decode cX3_letters 8 = .ok (.ior, 1) := by decide +kernel
theorem dX3_letters_9 : decode cX3_letters 9 = .ok (.ireturn, 1) := by decide +kernel
theorem dX3_isSoIn_0 : decode cX3_isSoIn 0 = .ok (.aload_n 0, 1) := by decide +kernel
theorem dX3_isSoIn_1 : decode cX3_isSoIn 1 = .ok (.getfield 28, 3) := by decide +kernel
theorem dX3_isSoIn_4 : decode cX3_isSoIn 4 = .ok (.iload_n 1, 1) := by decide +kernel
theorem dX3_isSoIn_5 : decode cX3_isSoIn 5 = .ok (.iand, 1) := by decide +kernel
theorem dX3_isSoIn_6 : decode cX3_isSoIn 6 = .ok (.aload_n 0, 1) := by decide +kernel
theorem dX3_isSoIn_7 : decode cX3_isSoIn 7 = .ok (.getfield 31, 3) := by decide +kernel
theorem dX3_isSoIn_10 : decode cX3_isSoIn 10 = .ok (.iload_n 1, 1) := by decide +kernel
theorem dX3_isSoIn_11 : decode cX3_isSoIn 11 = .ok (.iconst (-1), 1) := by decide +kernel
theorem dX3_isSoIn_12 : decode cX3_isSoIn 12 = .ok (.ixor, 1) := by decide +kernel
theorem dX3_isSoIn_13 : decode cX3_isSoIn 13 = .ok (.iand, 1) := by decide +kernel
theorem dX3_isSoIn_14 : decode cX3_isSoIn 14 = .ok (.ior, 1) := by decide +kernel
theorem dX3_isSoIn_15 : decode cX3_isSoIn 15 = .ok (.ifCond .eq 7, 3) := by decide +kernel
theorem dX3_isSoIn_18 : decode cX3_isSoIn 18 = .ok (.iconst 1, 1) := by decide +kernel
theorem dX3_isSoIn_19 : decode cX3_isSoIn 19 = .ok (.goto 4, 3) := by decide +kernel
theorem dX3_isSoIn_22 : decode cX3_isSoIn 22 = .ok (.iconst 0, 1) := by decide +kernel
theorem dX3_isSoIn_23 : decode cX3_isSoIn 23 = .ok (.ireturn, 1) := by decide +kernel
theorem dX3_sayingBy_0 : decode cX3_sayingBy 0 = .ok (.aload_n 0, 1) := by decide +kernel
theorem dX3_sayingBy_1 : decode cX3_sayingBy 1 = .ok (.getfield 11, 3) := by decide +kernel
theorem dX3_sayingBy_4 : decode cX3_sayingBy 4 = .ok (.iload_n 1, 1) := by decide +kernel
theorem dX3_sayingBy_5 : decode cX3_sayingBy 5 = .ok (.ifCond .lt 8, 3) := by decide +kernel
theorem dX3_sayingBy_8 : decode cX3_sayingBy 8 = .ok (.iload_n 1, 1) := by decide +kernel
theorem dX3_sayingBy_9 : decode cX3_sayingBy 9 = .ok (.iconst 3, 1) := by decide +kernel
theorem dX3_sayingBy_10 : decode cX3_sayingBy 10 = .ok (.if_icmp .lt 7, 3) := by decide +kernel
theorem dX3_sayingBy_13 : decode cX3_sayingBy 13 = .ok (.iconst 0, 1) := by decide +kernel
theorem dX3_sayingBy_14 : decode cX3_sayingBy 14 = .ok (.goto 4, 3) := by decide +kernel
theorem dX3_sayingBy_17 : decode cX3_sayingBy 17 = .ok (.iload_n 1, 1) := by decide +kernel
theorem dX3_sayingBy_18 : decode cX3_sayingBy 18 = .ok (.aaload, 1) := by decide +kernel
theorem dX3_sayingBy_19 : decode cX3_sayingBy 19 = .ok (.areturn, 1) := by decide +kernel
theorem dX3_gatherWorlds_0 : decode cX3_gatherWorlds 0 = .ok (.aload_n 1, 1) := by decide +kernel
theorem dX3_gatherWorlds_1 : decode cX3_gatherWorlds 1 = .ok (.invokevirtual 43, 3) := by decide +kernel
theorem dX3_gatherWorlds_4 : decode cX3_gatherWorlds 4 = .ok (.iconst 0, 1) := by decide +kernel
theorem dX3_gatherWorlds_5 : decode cX3_gatherWorlds 5 = .ok (.istore_n 3, 1) := by decide +kernel
theorem dX3_gatherWorlds_6 : decode cX3_gatherWorlds 6 = .ok (.iload_n 3, 1) := by decide +kernel
theorem dX3_gatherWorlds_7 : decode cX3_gatherWorlds 7 = .ok (.bipush 8, 2) := by decide +kernel
theorem dX3_gatherWorlds_9 : decode cX3_gatherWorlds 9 = .ok (.if_icmp .ge 48, 3) := by decide +kernel
theorem dX3_gatherWorlds_12 : decode cX3_gatherWorlds 12 = .ok (.iconst 1, 1) := by decide +kernel
theorem dX3_gatherWorlds_13 : decode cX3_gatherWorlds 13 = .ok (.iload_n 3, 1) := by decide +kernel
theorem dX3_gatherWorlds_14 : decode cX3_gatherWorlds 14 = .ok (.ishl, 1) := by decide +kernel
theorem dX3_gatherWorlds_15 : decode cX3_gatherWorlds 15 = .ok (.iload_n 2, 1) := by decide +kernel
theorem dX3_gatherWorlds_16 : decode cX3_gatherWorlds 16 = .ok (.iand, 1) := by decide +kernel
theorem dX3_gatherWorlds_17 : decode cX3_gatherWorlds 17 = .ok (.istore 4, 2) := by decide +kernel
theorem dX3_gatherWorlds_19 : decode cX3_gatherWorlds 19 = .ok (.aload_n 0, 1) := by decide +kernel
theorem dX3_gatherWorlds_20 : decode cX3_gatherWorlds 20 = .ok (.getfield 28, 3) := by decide +kernel
theorem dX3_gatherWorlds_23 : decode cX3_gatherWorlds 23 = .ok (.iload 4, 2) := by decide +kernel
theorem dX3_gatherWorlds_25 : decode cX3_gatherWorlds 25 = .ok (.iand, 1) := by decide +kernel
theorem dX3_gatherWorlds_26 : decode cX3_gatherWorlds 26 = .ok (.ifCond .eq 9, 3) := by decide +kernel
theorem dX3_gatherWorlds_29 : decode cX3_gatherWorlds 29 = .ok (.aload_n 1, 1) := by decide +kernel
theorem dX3_gatherWorlds_30 : decode cX3_gatherWorlds 30 = .ok (.iload_n 3, 1) := by decide +kernel
theorem dX3_gatherWorlds_31 : decode cX3_gatherWorlds 31 = .ok (.iconst 1, 1) := by decide +kernel
theorem dX3_gatherWorlds_32 : decode cX3_gatherWorlds 32 = .ok (.invokevirtual 46, 3) := by decide +kernel
theorem dX3_gatherWorlds_35 : decode cX3_gatherWorlds 35 = .ok (.aload_n 0, 1) := by decide +kernel
theorem dX3_gatherWorlds_36 : decode cX3_gatherWorlds 36 = .ok (.getfield 31, 3) := by decide +kernel
theorem dX3_gatherWorlds_39 : decode cX3_gatherWorlds 39 = .ok (.iload 4, 2) := by decide +kernel
theorem dX3_gatherWorlds_41 : decode cX3_gatherWorlds 41 = .ok (.iand, 1) := by decide +kernel
theorem dX3_gatherWorlds_42 : decode cX3_gatherWorlds 42 = .ok (.ifCond .eq 9, 3) := by decide +kernel
theorem dX3_gatherWorlds_45 : decode cX3_gatherWorlds 45 = .ok (.aload_n 1, 1) := by decide +kernel
theorem dX3_gatherWorlds_46 : decode cX3_gatherWorlds 46 = .ok (.iload_n 3, 1) := by decide +kernel
theorem dX3_gatherWorlds_47 : decode cX3_gatherWorlds 47 = .ok (.iconst 0, 1) := by decide +kernel
theorem dX3_gatherWorlds_48 : decode cX3_gatherWorlds 48 = .ok (.invokevirtual 46, 3) := by decide +kernel
theorem dX3_gatherWorlds_51 : decode cX3_gatherWorlds 51 = .ok (.iinc 3 1, 3) := by decide +kernel
theorem dX3_gatherWorlds_54 : decode cX3_gatherWorlds 54 = .ok (.goto (-48), 3) := by decide +kernel
theorem dX3_gatherWorlds_57 : decode cX3_gatherWorlds 57 = .ok (.return_, 1) := by decide +kernel
theorem dX3_becomeClause_0 : decode cX3_becomeClause 0 = .ok (.aload_n 0, 1) := by decide +kernel
theorem dX3_becomeClause_1 : decode cX3_becomeClause 1 = .ok (.iload_n 2, 1) := by decide +kernel
theorem dX3_becomeClause_2 : decode cX3_becomeClause 2 = .ok (.putfield 28, 3) := by decide +kernel
theorem dX3_becomeClause_5 : decode cX3_becomeClause 5 = .ok (.aload_n 0, 1) := by decide +kernel
theorem dX3_becomeClause_6 : decode cX3_becomeClause 6 = .ok (.iload_n 3, 1) := by decide +kernel
theorem dX3_becomeClause_7 : decode cX3_becomeClause 7 = .ok (.putfield 31, 3) := by decide +kernel
theorem dX3_becomeClause_10 : decode cX3_becomeClause 10 = .ok (.aload_n 0, 1) := by decide +kernel
theorem dX3_becomeClause_11 : decode cX3_becomeClause 11 = .ok (.iload_n 1, 1) := by decide +kernel
theorem dX3_becomeClause_12 : decode cX3_becomeClause 12 = .ok (.putfield 34, 3) := by decide +kernel
theorem dX3_becomeClause_15 : decode cX3_becomeClause 15 = .ok (.aload_n 0, 1) := by decide +kernel
theorem dX3_becomeClause_16 : decode cX3_becomeClause 16 = .ok (.bipush (-9), 2) := by decide +kernel
theorem dX3_becomeClause_18 : decode cX3_becomeClause 18 = .ok (.putfield 17, 3) := by decide +kernel
theorem dX3_becomeClause_21 : decode cX3_becomeClause 21 = .ok (.aload_n 0, 1) := by decide +kernel
theorem dX3_becomeClause_22 : decode cX3_becomeClause 22 = .ok (.bipush (-9), 2) := by decide +kernel
theorem dX3_becomeClause_24 : decode cX3_becomeClause 24 = .ok (.putfield 21, 3) := by decide +kernel
theorem dX3_becomeClause_27 : decode cX3_becomeClause 27 = .ok (.aload_n 0, 1) := by decide +kernel
theorem dX3_becomeClause_28 : decode cX3_becomeClause 28 = .ok (.bipush (-9), 2) := by decide +kernel
theorem dX3_becomeClause_30 : decode cX3_becomeClause 30 = .ok (.putfield 24, 3) := by decide +kernel
theorem dX3_becomeClause_33 : decode cX3_becomeClause 33 = .ok (.return_, 1) := by decide +kernel
theorem dX3_rememberCut_0 : decode cX3_rememberCut 0 = .ok (.aload_n 0, 1) := by decide +kernel
theorem dX3_rememberCut_1 : decode cX3_rememberCut 1 = .ok (.iconst 0, 1) := by decide +kernel
theorem dX3_rememberCut_2 : decode cX3_rememberCut 2 = .ok (.putfield 34, 3) := by decide +kernel
theorem dX3_rememberCut_5 : decode cX3_rememberCut 5 = .ok (.aload_n 0, 1) := by decide +kernel
theorem dX3_rememberCut_6 : decode cX3_rememberCut 6 = .ok (.iload_n 1, 1) := by decide +kernel
theorem dX3_rememberCut_7 : decode cX3_rememberCut 7 = .ok (.putfield 17, 3) := by decide +kernel
theorem dX3_rememberCut_10 : decode cX3_rememberCut 10 = .ok (.aload_n 0, 1) := by decide +kernel
theorem dX3_rememberCut_11 : decode cX3_rememberCut 11 = .ok (.iload_n 2, 1) := by decide +kernel
theorem dX3_rememberCut_12 : decode cX3_rememberCut 12 = .ok (.putfield 21, 3) := by decide +kernel
theorem dX3_rememberCut_15 : decode cX3_rememberCut 15 = .ok (.aload_n 0, 1) := by decide +kernel
theorem dX3_rememberCut_16 : decode cX3_rememberCut 16 = .ok (.iload_n 3, 1) := by decide +kernel
theorem dX3_rememberCut_17 : decode cX3_rememberCut 17 = .ok (.putfield 24, 3) := by decide +kernel
theorem dX3_rememberCut_20 : decode cX3_rememberCut 20 = .ok (.return_, 1) := by decide +kernel
theorem dX3_sayAsClause_0 : decode cX3_sayAsClause 0 = .ok (.aload_n 0, 1) := by decide +kernel
theorem dX3_sayAsClause_1 : decode cX3_sayAsClause 1 = .ok (.getfield 34, 3) := by decide +kernel
theorem dX3_sayAsClause_4 : decode cX3_sayAsClause 4 = .ok (.iconst 1, 1) := by decide +kernel
theorem dX3_sayAsClause_5 : decode cX3_sayAsClause 5 = .ok (.if_icmp .ne 35, 3) := by decide +kernel
theorem dX3_sayAsClause_8 : decode cX3_sayAsClause 8 = .ok (.aload_n 0, 1) := by decide +kernel
theorem dX3_sayAsClause_9 : decode cX3_sayAsClause 9 = .ok (.aload_n 0, 1) := by decide +kernel
theorem dX3_sayAsClause_10 : decode cX3_sayAsClause 10 = .ok (.getfield 11, 3) := by decide +kernel
theorem dX3_sayAsClause_13 : decode cX3_sayAsClause 13 = .ok (.iconst 0, 1) := by decide +kernel
theorem dX3_sayAsClause_14 : decode cX3_sayAsClause 14 = .ok (.aaload, 1) := by decide +kernel
theorem dX3_sayAsClause_15 : decode cX3_sayAsClause 15 = .ok (.iload_n 1, 1) := by decide +kernel
theorem dX3_sayAsClause_16 : decode cX3_sayAsClause 16 = .ok (.invokevirtual 50, 3) := by decide +kernel
theorem dX3_sayAsClause_19 : decode cX3_sayAsClause 19 = .ok (.aload_n 0, 1) := by decide +kernel
theorem dX3_sayAsClause_20 : decode cX3_sayAsClause 20 = .ok (.getfield 11, 3) := by decide +kernel
theorem dX3_sayAsClause_23 : decode cX3_sayAsClause 23 = .ok (.iconst 1, 1) := by decide +kernel
theorem dX3_sayAsClause_24 : decode cX3_sayAsClause 24 = .ok (.aaload, 1) := by decide +kernel
theorem dX3_sayAsClause_25 : decode cX3_sayAsClause 25 = .ok (.invokevirtual 43, 3) := by decide +kernel
theorem dX3_sayAsClause_28 : decode cX3_sayAsClause 28 = .ok (.aload_n 0, 1) := by decide +kernel
theorem dX3_sayAsClause_29 : decode cX3_sayAsClause 29 = .ok (.getfield 11, 3) := by decide +kernel
theorem dX3_sayAsClause_32 : decode cX3_sayAsClause 32 = .ok (.iconst 2, 1) := by decide +kernel
theorem dX3_sayAsClause_33 : decode cX3_sayAsClause 33 = .ok (.aaload, 1) := by decide +kernel
theorem dX3_sayAsClause_34 : decode cX3_sayAsClause 34 = .ok (.invokevirtual 43, 3) := by decide +kernel
theorem dX3_sayAsClause_37 : decode cX3_sayAsClause 37 = .ok (.goto 41, 3) := by decide +kernel
theorem dX3_sayAsClause_40 : decode cX3_sayAsClause 40 = .ok (.aload_n 0, 1) := by decide +kernel
theorem dX3_sayAsClause_41 : decode cX3_sayAsClause 41 = .ok (.getfield 11, 3) := by decide +kernel
theorem dX3_sayAsClause_44 : decode cX3_sayAsClause 44 = .ok (.iconst 0, 1) := by decide +kernel
theorem dX3_sayAsClause_45 : decode cX3_sayAsClause 45 = .ok (.aaload, 1) := by decide +kernel
theorem dX3_sayAsClause_46 : decode cX3_sayAsClause 46 = .ok (.invokevirtual 54, 3) := by decide +kernel
theorem dX3_sayAsClause_49 : decode cX3_sayAsClause 49 = .ok (.aload_n 0, 1) := by decide +kernel
theorem dX3_sayAsClause_50 : decode cX3_sayAsClause 50 = .ok (.aload_n 0, 1) := by decide +kernel
theorem dX3_sayAsClause_51 : decode cX3_sayAsClause 51 = .ok (.getfield 11, 3) := by decide +kernel
theorem dX3_sayAsClause_54 : decode cX3_sayAsClause 54 = .ok (.iconst 1, 1) := by decide +kernel
theorem dX3_sayAsClause_55 : decode cX3_sayAsClause 55 = .ok (.aaload, 1) := by decide +kernel
theorem dX3_sayAsClause_56 : decode cX3_sayAsClause 56 = .ok (.iload_n 1, 1) := by decide +kernel
theorem dX3_sayAsClause_57 : decode cX3_sayAsClause 57 = .ok (.invokevirtual 50, 3) := by decide +kernel
theorem dX3_sayAsClause_60 : decode cX3_sayAsClause 60 = .ok (.aload_n 0, 1) := by decide +kernel
theorem dX3_sayAsClause_61 : decode cX3_sayAsClause 61 = .ok (.getfield 11, 3) := by decide +kernel
theorem dX3_sayAsClause_64 : decode cX3_sayAsClause 64 = .ok (.iconst 1, 1) := by decide +kernel
theorem dX3_sayAsClause_65 : decode cX3_sayAsClause 65 = .ok (.aaload, 1) := by decide +kernel
theorem dX3_sayAsClause_66 : decode cX3_sayAsClause 66 = .ok (.invokevirtual 57, 3) := by decide +kernel
theorem dX3_sayAsClause_69 : decode cX3_sayAsClause 69 = .ok (.aload_n 0, 1) := by decide +kernel
theorem dX3_sayAsClause_70 : decode cX3_sayAsClause 70 = .ok (.getfield 11, 3) := by decide +kernel
theorem dX3_sayAsClause_73 : decode cX3_sayAsClause 73 = .ok (.iconst 2, 1) := by decide +kernel
theorem dX3_sayAsClause_74 : decode cX3_sayAsClause 74 = .ok (.aaload, 1) := by decide +kernel
theorem dX3_sayAsClause_75 : decode cX3_sayAsClause 75 = .ok (.invokevirtual 54, 3) := by decide +kernel
theorem dX3_sayAsClause_78 : decode cX3_sayAsClause 78 = .ok (.return_, 1) := by decide +kernel
theorem dX3_becomeCut_0 : decode cX3_becomeCut 0 = .ok (.iconst 1, 1) := by decide +kernel
theorem dX3_becomeCut_1 : decode cX3_becomeCut 1 = .ok (.iload_n 3, 1) := by decide +kernel
theorem dX3_becomeCut_2 : decode cX3_becomeCut 2 = .ok (.ishl, 1) := by decide +kernel
theorem dX3_becomeCut_3 : decode cX3_becomeCut 3 = .ok (.istore 4, 2) := by decide +kernel
theorem dX3_becomeCut_5 : decode cX3_becomeCut 5 = .ok (.aload_n 1, 1) := by decide +kernel
theorem dX3_becomeCut_6 : decode cX3_becomeCut 6 = .ok (.getfield 28, 3) := by decide +kernel
theorem dX3_becomeCut_9 : decode cX3_becomeCut 9 = .ok (.iload 4, 2) := by decide +kernel
theorem dX3_becomeCut_11 : decode cX3_becomeCut 11 = .ok (.iand, 1) := by decide +kernel
theorem dX3_becomeCut_12 : decode cX3_becomeCut 12 = .ok (.ifCond .eq 13, 3) := by decide +kernel
theorem dX3_becomeCut_15 : decode cX3_becomeCut 15 = .ok (.aload_n 2, 1) := by decide +kernel
theorem dX3_becomeCut_16 : decode cX3_becomeCut 16 = .ok (.getfield 31, 3) := by decide +kernel
theorem dX3_becomeCut_19 : decode cX3_becomeCut 19 = .ok (.iload 4, 2) := by decide +kernel
theorem dX3_becomeCut_21 : decode cX3_becomeCut 21 = .ok (.iand, 1) := by decide +kernel
theorem dX3_becomeCut_22 : decode cX3_becomeCut 22 = .ok (.ifCond .ne 5, 3) := by decide +kernel
theorem dX3_becomeCut_25 : decode cX3_becomeCut 25 = .ok (.iconst 0, 1) := by decide +kernel
theorem dX3_becomeCut_26 : decode cX3_becomeCut 26 = .ok (.ireturn, 1) := by decide +kernel
theorem dX3_becomeCut_27 : decode cX3_becomeCut 27 = .ok (.aload_n 1, 1) := by decide +kernel
theorem dX3_becomeCut_28 : decode cX3_becomeCut 28 = .ok (.getfield 28, 3) := by decide +kernel
theorem dX3_becomeCut_31 : decode cX3_becomeCut 31 = .ok (.iload 4, 2) := by decide +kernel
theorem dX3_becomeCut_33 : decode cX3_becomeCut 33 = .ok (.iconst (-1), 1) := by decide +kernel
theorem dX3_becomeCut_34 : decode cX3_becomeCut 34 = .ok (.ixor, 1) := by decide +kernel
theorem dX3_becomeCut_35 : decode cX3_becomeCut 35 = .ok (.iand, 1) := by decide +kernel
theorem dX3_becomeCut_36 : decode cX3_becomeCut 36 = .ok (.aload_n 2, 1) := by decide +kernel
theorem dX3_becomeCut_37 : decode cX3_becomeCut 37 = .ok (.getfield 28, 3) := by decide +kernel
theorem dX3_becomeCut_40 : decode cX3_becomeCut 40 = .ok (.ior, 1) := by decide +kernel
theorem dX3_becomeCut_41 : decode cX3_becomeCut 41 = .ok (.istore 5, 2) := by decide +kernel
theorem dX3_becomeCut_43 : decode cX3_becomeCut 43 = .ok (.aload_n 1, 1) := by decide +kernel
theorem dX3_becomeCut_44 : decode cX3_becomeCut 44 = .ok (.getfield 31, 3) := by decide +kernel
theorem dX3_becomeCut_47 : decode cX3_becomeCut 47 = .ok (.aload_n 2, 1) := by decide +kernel
theorem dX3_becomeCut_48 : decode cX3_becomeCut 48 = .ok (.getfield 31, 3) := by decide +kernel
theorem dX3_becomeCut_51 : decode cX3_becomeCut 51 = .ok (.iload 4, 2) := by decide +kernel
theorem dX3_becomeCut_53 : decode cX3_becomeCut 53 = .ok (.iconst (-1), 1) := by decide +kernel
theorem dX3_becomeCut_54 : decode cX3_becomeCut 54 = .ok (.ixor, 1) := by decide +kernel
theorem dX3_becomeCut_55 : decode cX3_becomeCut 55 = .ok (.iand, 1) := by decide +kernel
theorem dX3_becomeCut_56 : decode cX3_becomeCut 56 = .ok (.ior, 1) := by decide +kernel
theorem dX3_becomeCut_57 : decode cX3_becomeCut 57 = .ok (.istore 6, 2) := by decide +kernel
theorem dX3_becomeCut_59 : decode cX3_becomeCut 59 = .ok (.iload 5, 2) := by decide +kernel
theorem dX3_becomeCut_61 : decode cX3_becomeCut 61 = .ok (.iload 6, 2) := by decide +kernel
theorem dX3_becomeCut_63 : decode cX3_becomeCut 63 = .ok (.iand, 1) := by decide +kernel
theorem dX3_becomeCut_64 : decode cX3_becomeCut 64 = .ok (.ifCond .eq 5, 3) := by decide +kernel
theorem dX3_becomeCut_67 : decode cX3_becomeCut 67 = .ok (.iconst 0, 1) := by decide +kernel
theorem dX3_becomeCut_68 : decode cX3_becomeCut 68 = .ok (.ireturn, 1) := by decide +kernel
theorem dX3_becomeCut_69 : decode cX3_becomeCut 69 = .ok (.aload_n 0, 1) := by decide +kernel
theorem dX3_becomeCut_70 : decode cX3_becomeCut 70 = .ok (.iload 5, 2) := by decide +kernel
theorem dX3_becomeCut_72 : decode cX3_becomeCut 72 = .ok (.putfield 28, 3) := by decide +kernel
theorem dX3_becomeCut_75 : decode cX3_becomeCut 75 = .ok (.aload_n 0, 1) := by decide +kernel
theorem dX3_becomeCut_76 : decode cX3_becomeCut 76 = .ok (.iload 6, 2) := by decide +kernel
theorem dX3_becomeCut_78 : decode cX3_becomeCut 78 = .ok (.putfield 31, 3) := by decide +kernel
theorem dX3_becomeCut_81 : decode cX3_becomeCut 81 = .ok (.iconst 1, 1) := by decide +kernel
theorem dX3_becomeCut_82 : decode cX3_becomeCut 82 = .ok (.ireturn, 1) := by decide +kernel
theorem dX3_joins_0 : decode cX3_joins 0 = .ok (.iload_n 1, 1) := by decide +kernel
theorem dX3_joins_1 : decode cX3_joins 1 = .ok (.iconst 1, 1) := by decide +kernel
theorem dX3_joins_2 : decode cX3_joins 2 = .ok (.if_icmp .eq 13, 3) := by decide +kernel
theorem dX3_joins_5 : decode cX3_joins 5 = .ok (.iload_n 1, 1) := by decide +kernel
theorem dX3_joins_6 : decode cX3_joins 6 = .ok (.iconst 3, 1) := by decide +kernel
theorem dX3_joins_7 : decode cX3_joins 7 = .ok (.if_icmp .ne 12, 3) := by decide +kernel
theorem dX3_joins_10 : decode cX3_joins 10 = .ok (.iload_n 0, 1) := by decide +kernel
theorem dX3_joins_11 : decode cX3_joins 11 = .ok (.iconst 1, 1) := by decide +kernel
theorem dX3_joins_12 : decode cX3_joins 12 = .ok (.if_icmp .ne 7, 3) := by decide +kernel
theorem dX3_joins_15 : decode cX3_joins 15 = .ok (.iconst 1, 1) := by decide +kernel
theorem dX3_joins_16 : decode cX3_joins 16 = .ok (.goto 4, 3) := by decide +kernel
theorem dX3_joins_19 : decode cX3_joins 19 = .ok (.iconst 0, 1) := by decide +kernel
theorem dX3_joins_20 : decode cX3_joins 20 = .ok (.ireturn, 1) := by decide +kernel
theorem dX3_sayAsCut_0 : decode cX3_sayAsCut 0 = .ok (.iconst 0, 1) := by decide +kernel
theorem dX3_sayAsCut_1 : decode cX3_sayAsCut 1 = .ok (.istore 4, 2) := by decide +kernel
theorem dX3_sayAsCut_3 : decode cX3_sayAsCut 3 = .ok (.iload 4, 2) := by decide +kernel
theorem dX3_sayAsCut_5 : decode cX3_sayAsCut 5 = .ok (.iconst 3, 1) := by decide +kernel
theorem dX3_sayAsCut_6 : decode cX3_sayAsCut 6 = .ok (.if_icmp .ge 107, 3) := by decide +kernel
theorem dX3_sayAsCut_9 : decode cX3_sayAsCut 9 = .ok (.aload_n 1, 1) := by decide +kernel
theorem dX3_sayAsCut_10 : decode cX3_sayAsCut 10 = .ok (.getfield 11, 3) := by decide +kernel
theorem dX3_sayAsCut_13 : decode cX3_sayAsCut 13 = .ok (.iload 4, 2) := by decide +kernel
theorem dX3_sayAsCut_15 : decode cX3_sayAsCut 15 = .ok (.aaload, 1) := by decide +kernel
theorem dX3_sayAsCut_16 : decode cX3_sayAsCut 16 = .ok (.astore 5, 2) := by decide +kernel
theorem dX3_sayAsCut_18 : decode cX3_sayAsCut 18 = .ok (.aload_n 2, 1) := by decide +kernel
theorem dX3_sayAsCut_19 : decode cX3_sayAsCut 19 = .ok (.getfield 11, 3) := by decide +kernel
theorem dX3_sayAsCut_22 : decode cX3_sayAsCut 22 = .ok (.iload 4, 2) := by decide +kernel
theorem dX3_sayAsCut_24 : decode cX3_sayAsCut 24 = .ok (.aaload, 1) := by decide +kernel
theorem dX3_sayAsCut_25 : decode cX3_sayAsCut 25 = .ok (.astore 6, 2) := by decide +kernel
theorem dX3_sayAsCut_27 : decode cX3_sayAsCut 27 = .ok (.iload 4, 2) := by decide +kernel
theorem dX3_sayAsCut_29 : decode cX3_sayAsCut 29 = .ok (.iconst 2, 1) := by decide +kernel
theorem dX3_sayAsCut_30 : decode cX3_sayAsCut 30 = .ok (.if_icmp .ne 29, 3) := by decide +kernel
theorem dX3_sayAsCut_33 : decode cX3_sayAsCut 33 = .ok (.iload_n 3, 1) := by decide +kernel
theorem dX3_sayAsCut_34 : decode cX3_sayAsCut 34 = .ok (.iconst 3, 1) := by decide +kernel
theorem dX3_sayAsCut_35 : decode cX3_sayAsCut 35 = .ok (.if_icmp .ne 24, 3) := by decide +kernel
theorem dX3_sayAsCut_38 : decode cX3_sayAsCut 38 = .ok (.aload_n 0, 1) := by decide +kernel
theorem dX3_sayAsCut_39 : decode cX3_sayAsCut 39 = .ok (.getfield 11, 3) := by decide +kernel
theorem dX3_sayAsCut_42 : decode cX3_sayAsCut 42 = .ok (.iload 4, 2) := by decide +kernel
theorem dX3_sayAsCut_44 : decode cX3_sayAsCut 44 = .ok (.aaload, 1) := by decide +kernel
theorem dX3_sayAsCut_45 : decode cX3_sayAsCut 45 = .ok (.aload_n 0, 1) := by decide +kernel
theorem dX3_sayAsCut_46 : decode cX3_sayAsCut 46 = .ok (.getfield 24, 3) := by decide +kernel
theorem dX3_sayAsCut_49 : decode cX3_sayAsCut 49 = .ok (.aload 6, 2) := by decide +kernel
theorem dX3_sayAsCut_51 : decode cX3_sayAsCut 51 = .ok (.aload 5, 2) := by decide +kernel
theorem dX3_sayAsCut_53 : decode cX3_sayAsCut 53 = .ok (.invokevirtual 60, 3) := by decide +kernel
theorem dX3_sayAsCut_56 : decode cX3_sayAsCut 56 = .ok (.goto 51, 3) := by decide +kernel
theorem dX3_sayAsCut_59 : decode cX3_sayAsCut 59 = .ok (.aload_n 0, 1) := by decide +kernel
theorem dX3_sayAsCut_60 : decode cX3_sayAsCut 60 = .ok (.getfield 11, 3) := by decide +kernel
theorem dX3_sayAsCut_63 : decode cX3_sayAsCut 63 = .ok (.iload 4, 2) := by decide +kernel
theorem dX3_sayAsCut_65 : decode cX3_sayAsCut 65 = .ok (.aaload, 1) := by decide +kernel
theorem dX3_sayAsCut_66 : decode cX3_sayAsCut 66 = .ok (.aload 5, 2) := by decide +kernel
theorem dX3_sayAsCut_68 : decode cX3_sayAsCut 68 = .ok (.invokevirtual 64, 3) := by decide +kernel
theorem dX3_sayAsCut_71 : decode cX3_sayAsCut 71 = .ok (.iload 4, 2) := by decide +kernel
theorem dX3_sayAsCut_73 : decode cX3_sayAsCut 73 = .ok (.iload_n 3, 1) := by decide +kernel
theorem dX3_sayAsCut_74 : decode cX3_sayAsCut 74 = .ok (.invokestatic 68, 3) := by decide +kernel
theorem dX3_sayAsCut_77 : decode cX3_sayAsCut 77 = .ok (.ifCond .eq 18, 3) := by decide +kernel
theorem dX3_sayAsCut_80 : decode cX3_sayAsCut 80 = .ok (.aload_n 0, 1) := by decide +kernel
theorem dX3_sayAsCut_81 : decode cX3_sayAsCut 81 = .ok (.getfield 11, 3) := by decide +kernel
theorem dX3_sayAsCut_84 : decode cX3_sayAsCut 84 = .ok (.iload 4, 2) := by decide +kernel
theorem dX3_sayAsCut_86 : decode cX3_sayAsCut 86 = .ok (.aaload, 1) := by decide +kernel
theorem dX3_sayAsCut_87 : decode cX3_sayAsCut 87 = .ok (.aload 6, 2) := by decide +kernel
theorem dX3_sayAsCut_89 : decode cX3_sayAsCut 89 = .ok (.invokevirtual 72, 3) := by decide +kernel
theorem dX3_sayAsCut_92 : decode cX3_sayAsCut 92 = .ok (.goto 15, 3) := by decide +kernel
theorem dX3_sayAsCut_95 : decode cX3_sayAsCut 95 = .ok (.aload_n 0, 1) := by decide +kernel
theorem dX3_sayAsCut_96 : decode cX3_sayAsCut 96 = .ok (.getfield 11, 3) := by decide +kernel
theorem dX3_sayAsCut_99 : decode cX3_sayAsCut 99 = .ok (.iload 4, 2) := by decide +kernel
theorem dX3_sayAsCut_101 : decode cX3_sayAsCut 101 = .ok (.aaload, 1) := by decide +kernel
theorem dX3_sayAsCut_102 : decode cX3_sayAsCut 102 = .ok (.aload 6, 2) := by decide +kernel
theorem dX3_sayAsCut_104 : decode cX3_sayAsCut 104 = .ok (.invokevirtual 75, 3) := by decide +kernel
theorem dX3_sayAsCut_107 : decode cX3_sayAsCut 107 = .ok (.iinc 4 1, 3) := by decide +kernel
theorem dX3_sayAsCut_110 : decode cX3_sayAsCut 110 = .ok (.goto (-107), 3) := by decide +kernel
theorem dX3_sayAsCut_113 : decode cX3_sayAsCut 113 = .ok (.return_, 1) := by decide +kernel
def bc32 (x : Int32) : Int32 := let x1 : Int32 := x - (((x.toUInt32 >>> ((1 : Int32).toUInt32 &&& Int32.toUInt32 31)).toInt32) &&& 1431655765); let x3 : Int32 := (x1 &&& 858993459) + (((x1.toUInt32 >>> ((2 : Int32).toUInt32 &&& Int32.toUInt32 31)).toInt32) &&& 858993459); let x5 : Int32 := (x3 + ((x3.toUInt32 >>> ((4 : Int32).toUInt32 &&& Int32.toUInt32 31)).toInt32)) &&& 252645135; let x7 : Int32 := x5 + ((x5.toUInt32 >>> ((8 : Int32).toUInt32 &&& Int32.toUInt32 31)).toInt32); let x9 : Int32 := x7 + ((x7.toUInt32 >>> ((16 : Int32).toUInt32 &&& Int32.toUInt32 31)).toInt32); x9 &&& 63
set_option maxRecDepth 20000 in
theorem s_J6_bitCount_0f7a4 {xs : Nat → Int32} {L d sz : Nat} {h : ev_H} {x : Int32}  : EV xs L (d + 0) 0 0 M_J6_bitCount_0f7a4 sz h 0 [some (.int x)] [] (fun sz' h' r => sz' = sz ∧ h' = h ∧ r = [.int (bc32 x)]) := by
  refine r_iload_n rfl dJ6_bitCount_0f7a4_0 rfl ?_
  refine r_iload_n rfl dJ6_bitCount_0f7a4_1 rfl ?_
  refine r_iconst (v := 1) rfl dJ6_bitCount_0f7a4_2 (by decide) ?_
  refine r_iushr rfl dJ6_bitCount_0f7a4_3 ?_
  refine r_ldcw (v := 1431655765) rfl dJ6_bitCount_0f7a4_4 lc_J6_265 ?_
  refine r_iand rfl dJ6_bitCount_0f7a4_7 ?_
  refine r_isub rfl dJ6_bitCount_0f7a4_8 ?_
  refine r_topi (fun x1 e2 => ?_)
  refine r_istore_n (ls' := [some (.int x1)]) rfl dJ6_bitCount_0f7a4_9 (Nat.le_of_ble_eq_true rfl) rfl ?_
  refine r_iload_n rfl dJ6_bitCount_0f7a4_10 rfl ?_
  refine r_ldcw (v := 858993459) rfl dJ6_bitCount_0f7a4_11 lc_J6_266 ?_
  refine r_iand rfl dJ6_bitCount_0f7a4_14 ?_
  refine r_iload_n rfl dJ6_bitCount_0f7a4_15 rfl ?_
  refine r_iconst (v := 2) rfl dJ6_bitCount_0f7a4_16 (by decide) ?_
  refine r_iushr rfl dJ6_bitCount_0f7a4_17 ?_
  refine r_ldcw (v := 858993459) rfl dJ6_bitCount_0f7a4_18 lc_J6_266 ?_
  refine r_iand rfl dJ6_bitCount_0f7a4_21 ?_
  refine r_iadd rfl dJ6_bitCount_0f7a4_22 ?_
  refine r_topi (fun x3 e4 => ?_)
  refine r_istore_n (ls' := [some (.int x3)]) rfl dJ6_bitCount_0f7a4_23 (Nat.le_of_ble_eq_true rfl) rfl ?_
  refine r_iload_n rfl dJ6_bitCount_0f7a4_24 rfl ?_
  refine r_iload_n rfl dJ6_bitCount_0f7a4_25 rfl ?_
  refine r_iconst (v := 4) rfl dJ6_bitCount_0f7a4_26 (by decide) ?_
  refine r_iushr rfl dJ6_bitCount_0f7a4_27 ?_
  refine r_iadd rfl dJ6_bitCount_0f7a4_28 ?_
  refine r_ldcw (v := 252645135) rfl dJ6_bitCount_0f7a4_29 lc_J6_267 ?_
  refine r_iand rfl dJ6_bitCount_0f7a4_32 ?_
  refine r_topi (fun x5 e6 => ?_)
  refine r_istore_n (ls' := [some (.int x5)]) rfl dJ6_bitCount_0f7a4_33 (Nat.le_of_ble_eq_true rfl) rfl ?_
  refine r_iload_n rfl dJ6_bitCount_0f7a4_34 rfl ?_
  refine r_iload_n rfl dJ6_bitCount_0f7a4_35 rfl ?_
  refine r_bipush (v := 8) rfl dJ6_bitCount_0f7a4_36 (by decide) ?_
  refine r_iushr rfl dJ6_bitCount_0f7a4_38 ?_
  refine r_iadd rfl dJ6_bitCount_0f7a4_39 ?_
  refine r_topi (fun x7 e8 => ?_)
  refine r_istore_n (ls' := [some (.int x7)]) rfl dJ6_bitCount_0f7a4_40 (Nat.le_of_ble_eq_true rfl) rfl ?_
  refine r_iload_n rfl dJ6_bitCount_0f7a4_41 rfl ?_
  refine r_iload_n rfl dJ6_bitCount_0f7a4_42 rfl ?_
  refine r_bipush (v := 16) rfl dJ6_bitCount_0f7a4_43 (by decide) ?_
  refine r_iushr rfl dJ6_bitCount_0f7a4_45 ?_
  refine r_iadd rfl dJ6_bitCount_0f7a4_46 ?_
  refine r_topi (fun x9 e10 => ?_)
  refine r_istore_n (ls' := [some (.int x9)]) rfl dJ6_bitCount_0f7a4_47 (Nat.le_of_ble_eq_true rfl) rfl ?_
  refine r_iload_n rfl dJ6_bitCount_0f7a4_48 rfl ?_
  refine r_bipush (v := 63) rfl dJ6_bitCount_0f7a4_49 (by decide) ?_
  refine r_iand rfl dJ6_bitCount_0f7a4_51 ?_
  subst e10
  subst e8
  subst e6
  subst e4
  subst e2
  exact r_ret dJ6_bitCount_0f7a4_52 (rt_i rfl) ⟨rfl, rfl, rfl⟩
set_option maxRecDepth 20000 in
theorem s_X3_property {xs : Nat → Int32} {L d : Nat} {h : ev_H} (hS : SH h) {i : Nat} (hi : i < 40) {w : Int32} : EV xs L (d + 0) 0 0 M_X3_property 434 h 0 [some (.ref (100 + 8 * i)), some (.int w)] [] (fun sz' h' r => ∃ x : Int32, r = [.int x]) := by
  refine r_iload_n rfl dX3_property_0 rfl ?_
  by_cases c51 : w.toInt < 0 ∨ 5 < w.toInt
  · refine r_swO (tgt := 70) dX3_property_1 rfl c51 ?_
    refine r_iconst (v := (-1)) rfl dX3_property_70 (by decide) ?_
    exact r_ret dX3_property_71 (rt_i rfl) ⟨_, rfl⟩
  · have c51a : ¬ w.toInt < 0 := fun z => c51 (Or.inl z)
    have c51b : ¬ 5 < w.toInt := fun z => c51 (Or.inr z)
    rcases (show w.toInt = 0 ∨ w.toInt = 1 ∨ w.toInt = 2 ∨ w.toInt = 3 ∨ w.toInt = 4 ∨ w.toInt = 5 by omega) with c51e | c51e | c51e | c51e | c51e | c51e
    · refine r_swI (off := 39) (tgt := 40) dX3_property_1 rfl c51a c51b (by rw [c51e]; rfl) ?_
      refine r_aload_n rfl dX3_property_40 rfl ?_
      obtain ⟨y53, y54, y55, y56, y57, y58, f52⟩ := hS.ln hi
      refine r_getv 1 rfl dX3_property_41 (show 2 ≤ 100 + 8 * i ∧ 100 + 8 * i < 434 by omega) f52 fl_X3_28 rfl ?_
      exact r_ret dX3_property_44 (rt_i rfl) ⟨_, rfl⟩
    · refine r_swI (off := 44) (tgt := 45) dX3_property_1 rfl c51a c51b (by rw [c51e]; rfl) ?_
      refine r_aload_n rfl dX3_property_45 rfl ?_
      obtain ⟨y60, y61, y62, y63, y64, y65, f59⟩ := hS.ln hi
      refine r_getv 2 rfl dX3_property_46 (show 2 ≤ 100 + 8 * i ∧ 100 + 8 * i < 434 by omega) f59 fl_X3_31 rfl ?_
      exact r_ret dX3_property_49 (rt_i rfl) ⟨_, rfl⟩
    · refine r_swI (off := 49) (tgt := 50) dX3_property_1 rfl c51a c51b (by rw [c51e]; rfl) ?_
      refine r_aload_n rfl dX3_property_50 rfl ?_
      obtain ⟨y67, y68, y69, y70, y71, y72, f66⟩ := hS.ln hi
      refine r_getv 3 rfl dX3_property_51 (show 2 ≤ 100 + 8 * i ∧ 100 + 8 * i < 434 by omega) f66 fl_X3_34 rfl ?_
      exact r_ret dX3_property_54 (rt_i rfl) ⟨_, rfl⟩
    · refine r_swI (off := 54) (tgt := 55) dX3_property_1 rfl c51a c51b (by rw [c51e]; rfl) ?_
      refine r_aload_n rfl dX3_property_55 rfl ?_
      obtain ⟨y74, y75, y76, y77, y78, y79, f73⟩ := hS.ln hi
      refine r_getv 4 rfl dX3_property_56 (show 2 ≤ 100 + 8 * i ∧ 100 + 8 * i < 434 by omega) f73 fl_X3_17 rfl ?_
      exact r_ret dX3_property_59 (rt_i rfl) ⟨_, rfl⟩
    · refine r_swI (off := 59) (tgt := 60) dX3_property_1 rfl c51a c51b (by rw [c51e]; rfl) ?_
      refine r_aload_n rfl dX3_property_60 rfl ?_
      obtain ⟨y81, y82, y83, y84, y85, y86, f80⟩ := hS.ln hi
      refine r_getv 5 rfl dX3_property_61 (show 2 ≤ 100 + 8 * i ∧ 100 + 8 * i < 434 by omega) f80 fl_X3_21 rfl ?_
      exact r_ret dX3_property_64 (rt_i rfl) ⟨_, rfl⟩
    · refine r_swI (off := 64) (tgt := 65) dX3_property_1 rfl c51a c51b (by rw [c51e]; rfl) ?_
      refine r_aload_n rfl dX3_property_65 rfl ?_
      obtain ⟨y88, y89, y90, y91, y92, y93, f87⟩ := hS.ln hi
      refine r_getv 6 rfl dX3_property_66 (show 2 ≤ 100 + 8 * i ∧ 100 + 8 * i < 434 by omega) f87 fl_X3_24 rfl ?_
      exact r_ret dX3_property_69 (rt_i rfl) ⟨_, rfl⟩
set_option maxRecDepth 20000 in
theorem s_X3_literals {xs : Nat → Int32} {L d : Nat} {h : ev_H} (hS : SH h) {i : Nat} (hi : i < 40)  : EV xs L (d + 1) 0 0 M_X3_literals 434 h 0 [some (.ref (100 + 8 * i))] [] (fun sz' h' r => ∃ x : Int32, r = [.int x]) := by
  refine r_aload_n rfl dX3_literals_0 rfl ?_
  obtain ⟨y52, y53, y54, y55, y56, y57, f51⟩ := hS.ln hi
  refine r_getv 1 rfl dX3_literals_1 (show 2 ≤ 100 + 8 * i ∧ 100 + 8 * i < 434 by omega) f51 fl_X3_28 rfl ?_
  refine cl_X3_37 rfl rfl dX3_literals_4 (Nat.le_of_ble_eq_true rfl) s_J6_bitCount_0f7a4 ?_
  rintro _ h58 _ ⟨rfl, e59, rfl⟩
  replace e59 := e59.symm
  subst e59
  refine r_aload_n rfl dX3_literals_7 rfl ?_
  refine r_getv 2 rfl dX3_literals_8 (show 2 ≤ 100 + 8 * i ∧ 100 + 8 * i < 434 by omega) f51 fl_X3_31 rfl ?_
  refine cl_X3_37 rfl rfl dX3_literals_11 (Nat.le_of_ble_eq_true rfl) s_J6_bitCount_0f7a4 ?_
  rintro _ h60 _ ⟨rfl, e61, rfl⟩
  replace e61 := e61.symm
  subst e61
  refine r_iadd rfl dX3_literals_14 ?_
  exact r_ret dX3_literals_15 (rt_i rfl) ⟨_, rfl⟩
set_option maxRecDepth 20000 in
theorem s_X3_letters {xs : Nat → Int32} {L d : Nat} {h : ev_H} (hS : SH h) {i : Nat} (hi : i < 40)  : EV xs L (d + 0) 0 0 M_X3_letters 434 h 0 [some (.ref (100 + 8 * i))] [] (fun sz' h' r => ∃ x : Int32, r = [.int x]) := by
  refine r_aload_n rfl dX3_letters_0 rfl ?_
  obtain ⟨y52, y53, y54, y55, y56, y57, f51⟩ := hS.ln hi
  refine r_getv 1 rfl dX3_letters_1 (show 2 ≤ 100 + 8 * i ∧ 100 + 8 * i < 434 by omega) f51 fl_X3_28 rfl ?_
  refine r_aload_n rfl dX3_letters_4 rfl ?_
  refine r_getv 2 rfl dX3_letters_5 (show 2 ≤ 100 + 8 * i ∧ 100 + 8 * i < 434 by omega) f51 fl_X3_31 rfl ?_
  refine r_ior rfl dX3_letters_8 ?_
  exact r_ret dX3_letters_9 (rt_i rfl) ⟨_, rfl⟩
set_option maxRecDepth 20000 in
theorem s_X3_isSoIn {xs : Nat → Int32} {L d : Nat} {h : ev_H} (hS : SH h) {i : Nat} (hi : i < 40) {w : Int32} : EV xs L (d + 0) 0 0 M_X3_isSoIn 434 h 0 [some (.ref (100 + 8 * i)), some (.int w)] [] (fun sz' h' r => ∃ x : Int32, r = [.int x]) := by
  refine r_aload_n rfl dX3_isSoIn_0 rfl ?_
  obtain ⟨y52, y53, y54, y55, y56, y57, f51⟩ := hS.ln hi
  refine r_getv 1 rfl dX3_isSoIn_1 (show 2 ≤ 100 + 8 * i ∧ 100 + 8 * i < 434 by omega) f51 fl_X3_28 rfl ?_
  refine r_iload_n rfl dX3_isSoIn_4 rfl ?_
  refine r_iand rfl dX3_isSoIn_5 ?_
  refine r_aload_n rfl dX3_isSoIn_6 rfl ?_
  refine r_getv 2 rfl dX3_isSoIn_7 (show 2 ≤ 100 + 8 * i ∧ 100 + 8 * i < 434 by omega) f51 fl_X3_31 rfl ?_
  refine r_iload_n rfl dX3_isSoIn_10 rfl ?_
  refine r_iconst (v := (-1)) rfl dX3_isSoIn_11 (by decide) ?_
  refine r_ixor rfl dX3_isSoIn_12 ?_
  refine r_iand rfl dX3_isSoIn_13 ?_
  refine r_ior rfl dX3_isSoIn_14 ?_
  refine r_if_eq (tgt := 22) rfl rfl dX3_isSoIn_15 (fun c58 => ?_) (fun c58 => ?_)
  · refine r_iconst (v := 0) rfl dX3_isSoIn_22 (by decide) ?_
    exact r_ret dX3_isSoIn_23 (rt_z rfl (Or.inl rfl)) ⟨_, rfl⟩
  · refine r_iconst (v := 1) rfl dX3_isSoIn_18 (by decide) ?_
    refine r_goto (pc' := 23) rfl dX3_isSoIn_19 ?_
    exact r_ret dX3_isSoIn_23 (rt_z rfl (Or.inr rfl)) ⟨_, rfl⟩
set_option maxRecDepth 20000 in
theorem s_X3_sayingBy {xs : Nat → Int32} {L d : Nat} {h : ev_H} (hS : SH h) {i : Nat} (hi : i < 40) {w : Int32} : EV xs L (d + 0) 0 0 M_X3_sayingBy 434 h 0 [some (.ref (100 + 8 * i)), some (.int w)] [] (fun sz' h' r => ∃ j : Nat, j < 3 ∧ r = [.ref (102 + 8 * i + 2 * j)]) := by
  refine r_aload_n rfl dX3_sayingBy_0 rfl ?_
  obtain ⟨y52, y53, y54, y55, y56, y57, f51⟩ := hS.ln hi
  refine r_getv 0 rfl dX3_sayingBy_1 (show 2 ≤ 100 + 8 * i ∧ 100 + 8 * i < 434 by omega) f51 fl_X3_11 rfl ?_
  refine r_iload_n rfl dX3_sayingBy_4 rfl ?_
  refine r_if_lt (tgt := 13) rfl rfl dX3_sayingBy_5 (fun c58 => ?_) (fun c58 => ?_)
  · refine r_iconst (v := 0) rfl dX3_sayingBy_13 (by decide) ?_
    refine r_goto (pc' := 18) rfl dX3_sayingBy_14 ?_
    refine r_aald (jn := 0) (v := .ref (102 + 8 * i + 2 * 0)) rfl dX3_sayingBy_18 (show 2 ≤ 101 + 8 * i ∧ 101 + 8 * i < 434 by omega).1 (show 2 ≤ 101 + 8 * i ∧ 101 + 8 * i < 434 by omega).2 (hS.say hi) (by decide) (by unfold vp_in; decide) rfl (by show va_rf (if _ < _ then _ else _) = _; rw [if_pos (show 0 < 3 by decide)]; rfl) ?_
    exact r_ret dX3_sayingBy_19 (rt_a rfl) ⟨_, (show 0 < 3 by decide), rfl⟩
  · refine r_iload_n rfl dX3_sayingBy_8 rfl ?_
    refine r_iconst (v := 3) rfl dX3_sayingBy_9 (by decide) ?_
    refine r_icmp_lt (tgt := 17) rfl rfl dX3_sayingBy_10 (fun c60 => ?_) (fun c60 => ?_)
    · refine r_iload_n rfl dX3_sayingBy_17 rfl ?_
      refine r_aald (jn := w.toNatClampNeg) (v := .ref (102 + 8 * i + 2 * w.toNatClampNeg)) rfl dX3_sayingBy_18 (show 2 ≤ 101 + 8 * i ∧ 101 + 8 * i < 434 by omega).1 (show 2 ≤ 101 + 8 * i ∧ 101 + 8 * i < 434 by omega).2 (hS.say hi) (by decide) (vpi2 (m := 3) (by decide) c58 c60) rfl (by show va_rf (if _ < _ then _ else _) = _; rw [if_pos (vp_in_lt (vpi2 (m := 3) (by decide) c58 c60))]; rfl) ?_
      exact r_ret dX3_sayingBy_19 (rt_a rfl) ⟨_, (vp_in_lt (vpi2 (m := 3) (by decide) c58 c60)), rfl⟩
    · refine r_iconst (v := 0) rfl dX3_sayingBy_13 (by decide) ?_
      refine r_goto (pc' := 18) rfl dX3_sayingBy_14 ?_
      refine r_aald (jn := 0) (v := .ref (102 + 8 * i + 2 * 0)) rfl dX3_sayingBy_18 (show 2 ≤ 101 + 8 * i ∧ 101 + 8 * i < 434 by omega).1 (show 2 ≤ 101 + 8 * i ∧ 101 + 8 * i < 434 by omega).2 (hS.say hi) (by decide) (by unfold vp_in; decide) rfl (by show va_rf (if _ < _ then _ else _) = _; rw [if_pos (show 0 < 3 by decide)]; rfl) ?_
      exact r_ret dX3_sayingBy_19 (rt_a rfl) ⟨_, (show 0 < 3 by decide), rfl⟩
set_option maxRecDepth 20000 in
theorem s_X3_gatherWorlds_loop {xs : Nat → Int32} {L d : Nat} {i a : Nat} {m : Int32} (hi : i < 40) (ha : wsAt a) : ∀ (n k : Nat), k + n = 8 → ∀ (h : ev_H) (hS : SH h) (u : Option Value) , EV xs L (d + 2) 0 0 M_X3_gatherWorlds 434 h 6 [some (.ref (100 + 8 * i)), some (.ref a), some (.int m), some (.int (nI k)), u] [] (fun sz' h' r => r = []) := by
  intro n
  induction n with
  | zero =>
    intro k hk h hS u
    obtain rfl : k = 8 := by omega
    refine r_iload_n rfl dX3_gatherWorlds_6 rfl ?_
    refine r_bipush (v := 8) rfl dX3_gatherWorlds_7 (by decide) ?_
    refine r_icmp_ge (tgt := 57) rfl rfl dX3_gatherWorlds_9 (fun _ => ?_) (fun c => absurd c (by decide))
    exact r_ret dX3_gatherWorlds_57 (rt_v rfl) rfl
  | succ n ih =>
    intro k hk h hS u
    refine r_iload_n rfl dX3_gatherWorlds_6 rfl ?_
    refine r_bipush (v := 8) rfl dX3_gatherWorlds_7 (by decide) ?_
    refine r_icmp_ge (tgt := 57) rfl rfl dX3_gatherWorlds_9 (fun c => absurd c (show ¬ (8 : Int32) ≤ nI k from nI_ge (a := k) (b := 8) (by omega) (by decide))) (fun _ => ?_)
    refine r_iconst (v := 1) rfl dX3_gatherWorlds_12 (by decide) ?_
    refine r_iload_n rfl dX3_gatherWorlds_13 rfl ?_
    refine r_ishl rfl dX3_gatherWorlds_14 ?_
    refine r_iload_n rfl dX3_gatherWorlds_15 rfl ?_
    refine r_iand rfl dX3_gatherWorlds_16 ?_
    refine r_topi (fun x601 e602 => ?_)
    refine r_istore (ls' := [some (.ref (100 + 8 * i)), some (.ref a), some (.int m), some (.int (nI k)), some (.int x601)]) rfl dX3_gatherWorlds_17 (Nat.le_of_ble_eq_true rfl) rfl ?_
    refine r_aload_n rfl dX3_gatherWorlds_19 rfl ?_
    obtain ⟨y604, y605, y606, y607, y608, y609, f603⟩ := hS.ln hi
    refine r_getv 1 rfl dX3_gatherWorlds_20 (show 2 ≤ 100 + 8 * i ∧ 100 + 8 * i < 434 by omega) f603 fl_X3_28 rfl ?_
    refine r_iload rfl dX3_gatherWorlds_23 rfl ?_
    refine r_iand rfl dX3_gatherWorlds_25 ?_
    refine r_if_eq (tgt := 35) rfl rfl dX3_gatherWorlds_26 (fun c610 => ?_) (fun c610 => ?_)
    · refine r_aload_n rfl dX3_gatherWorlds_35 rfl ?_
      refine r_getv 2 rfl dX3_gatherWorlds_36 (show 2 ≤ 100 + 8 * i ∧ 100 + 8 * i < 434 by omega) f603 fl_X3_31 rfl ?_
      refine r_iload rfl dX3_gatherWorlds_39 rfl ?_
      refine r_iand rfl dX3_gatherWorlds_41 ?_
      refine r_if_eq (tgt := 51) rfl rfl dX3_gatherWorlds_42 (fun c611 => ?_) (fun c611 => ?_)
      · obtain ⟨x612, e613⟩ : ∃ z : Int32, z = (nI k) + Int32.ofInt 1 := ⟨_, rfl⟩
        refine r_iinc (y := x612) (ls' := [some (.ref (100 + 8 * i)), some (.ref a), some (.int m), some (.int x612), some (.int x601)]) rfl dX3_gatherWorlds_51 rfl e613.symm (Nat.le_of_ble_eq_true rfl) rfl ?_
        refine r_goto (pc' := 6) rfl dX3_gatherWorlds_54 ?_
        have z614 : x612 = nI (k + 1) := by rw [e613]; exact nI_1 k
        subst z614
        exact ih (k + 1) (by omega) h hS (some (.int x601))
      · refine r_aload_n rfl dX3_gatherWorlds_45 rfl ?_
        refine r_iload_n rfl dX3_gatherWorlds_46 rfl ?_
        refine r_iconst (v := 0) rfl dX3_gatherWorlds_47 (by decide) ?_
        obtain ⟨g616, hw617⟩ := hS.ws ha
        refine cl_X3_46 rfl rfl dX3_gatherWorlds_48 (show _ ∧ _ from ⟨ha.2.2.1, Nat.lt_of_succ_lt ha.2.2.2⟩).1 (show _ ∧ _ from ⟨ha.2.2.1, Nat.lt_of_succ_lt ha.2.2.2⟩).2 hw617.2.2.1 (Nat.le_of_ble_eq_true rfl) ((s_X10_joinWhere hw617).sh hS) ?_
        rintro _ h618 _ ⟨⟨rfl, -, rfl⟩, -, hS619, -⟩
        obtain ⟨x621, e622⟩ : ∃ z : Int32, z = (nI k) + Int32.ofInt 1 := ⟨_, rfl⟩
        refine r_iinc (y := x621) (ls' := [some (.ref (100 + 8 * i)), some (.ref a), some (.int m), some (.int x621), some (.int x601)]) rfl dX3_gatherWorlds_51 rfl e622.symm (Nat.le_of_ble_eq_true rfl) rfl ?_
        refine r_goto (pc' := 6) rfl dX3_gatherWorlds_54 ?_
        have z623 : x621 = nI (k + 1) := by rw [e622]; exact nI_1 k
        subst z623
        exact ih (k + 1) (by omega) h618 hS619 (some (.int x601))
    · refine r_aload_n rfl dX3_gatherWorlds_29 rfl ?_
      refine r_iload_n rfl dX3_gatherWorlds_30 rfl ?_
      refine r_iconst (v := 1) rfl dX3_gatherWorlds_31 (by decide) ?_
      obtain ⟨g625, hw626⟩ := hS.ws ha
      refine cl_X3_46 rfl rfl dX3_gatherWorlds_32 (show _ ∧ _ from ⟨ha.2.2.1, Nat.lt_of_succ_lt ha.2.2.2⟩).1 (show _ ∧ _ from ⟨ha.2.2.1, Nat.lt_of_succ_lt ha.2.2.2⟩).2 hw626.2.2.1 (Nat.le_of_ble_eq_true rfl) ((s_X10_joinWhere hw626).sh hS) ?_
      rintro _ h627 _ ⟨⟨rfl, -, rfl⟩, -, hS628, -⟩
      refine r_aload_n rfl dX3_gatherWorlds_35 rfl ?_
      obtain ⟨y631, y632, y633, y634, y635, y636, f630⟩ := hS628.ln hi
      refine r_getv 2 rfl dX3_gatherWorlds_36 (show 2 ≤ 100 + 8 * i ∧ 100 + 8 * i < 434 by omega) f630 fl_X3_31 rfl ?_
      refine r_iload rfl dX3_gatherWorlds_39 rfl ?_
      refine r_iand rfl dX3_gatherWorlds_41 ?_
      refine r_if_eq (tgt := 51) rfl rfl dX3_gatherWorlds_42 (fun c637 => ?_) (fun c637 => ?_)
      · obtain ⟨x638, e639⟩ : ∃ z : Int32, z = (nI k) + Int32.ofInt 1 := ⟨_, rfl⟩
        refine r_iinc (y := x638) (ls' := [some (.ref (100 + 8 * i)), some (.ref a), some (.int m), some (.int x638), some (.int x601)]) rfl dX3_gatherWorlds_51 rfl e639.symm (Nat.le_of_ble_eq_true rfl) rfl ?_
        refine r_goto (pc' := 6) rfl dX3_gatherWorlds_54 ?_
        have z640 : x638 = nI (k + 1) := by rw [e639]; exact nI_1 k
        subst z640
        exact ih (k + 1) (by omega) h627 hS628 (some (.int x601))
      · refine r_aload_n rfl dX3_gatherWorlds_45 rfl ?_
        refine r_iload_n rfl dX3_gatherWorlds_46 rfl ?_
        refine r_iconst (v := 0) rfl dX3_gatherWorlds_47 (by decide) ?_
        obtain ⟨g642, hw643⟩ := hS628.ws ha
        refine cl_X3_46 rfl rfl dX3_gatherWorlds_48 (show _ ∧ _ from ⟨ha.2.2.1, Nat.lt_of_succ_lt ha.2.2.2⟩).1 (show _ ∧ _ from ⟨ha.2.2.1, Nat.lt_of_succ_lt ha.2.2.2⟩).2 hw643.2.2.1 (Nat.le_of_ble_eq_true rfl) ((s_X10_joinWhere hw643).sh hS628) ?_
        rintro _ h644 _ ⟨⟨rfl, -, rfl⟩, -, hS645, -⟩
        obtain ⟨x647, e648⟩ : ∃ z : Int32, z = (nI k) + Int32.ofInt 1 := ⟨_, rfl⟩
        refine r_iinc (y := x647) (ls' := [some (.ref (100 + 8 * i)), some (.ref a), some (.int m), some (.int x647), some (.int x601)]) rfl dX3_gatherWorlds_51 rfl e648.symm (Nat.le_of_ble_eq_true rfl) rfl ?_
        refine r_goto (pc' := 6) rfl dX3_gatherWorlds_54 ?_
        have z649 : x647 = nI (k + 1) := by rw [e648]; exact nI_1 k
        subst z649
        exact ih (k + 1) (by omega) h644 hS645 (some (.int x601))
set_option maxRecDepth 20000 in
theorem s_X3_gatherWorlds {xs : Nat → Int32} {L d : Nat} {h : ev_H} (hS : SH h) {i a : Nat} {m : Int32} (hi : i < 40) (ha : wsAt a)  : EV xs L (d + 2) 0 0 M_X3_gatherWorlds 434 h 0 [some (.ref (100 + 8 * i)), some (.ref a), some (.int m), none, none] [] (fun sz' h' r => r = []) := by
  refine r_aload_n rfl dX3_gatherWorlds_0 rfl ?_
  obtain ⟨g52, hw53⟩ := hS.ws ha
  refine cl_X3_43 rfl rfl dX3_gatherWorlds_1 (show _ ∧ _ from ⟨ha.2.2.1, Nat.lt_of_succ_lt ha.2.2.2⟩).1 (show _ ∧ _ from ⟨ha.2.2.1, Nat.lt_of_succ_lt ha.2.2.2⟩).2 hw53.2.2.1 (Nat.le_of_ble_eq_true rfl) ((s_X10_wipe hw53).sh hS) ?_
  rintro _ h54 _ ⟨⟨rfl, -, rfl⟩, -, hS55, -⟩
  refine r_iconst (v := 0) rfl dX3_gatherWorlds_4 (by decide) ?_
  refine r_istore_n (ls' := [some (.ref (100 + 8 * i)), some (.ref a), some (.int m), some (.int 0), none]) rfl dX3_gatherWorlds_5 (Nat.le_of_ble_eq_true rfl) rfl ?_
  exact s_X3_gatherWorlds_loop hi ha 8 0 rfl h54 hS55 none
set_option maxRecDepth 20000 in
theorem s_X3_becomeClause {xs : Nat → Int32} {L d : Nat} {h : ev_H} (hS : SH h) {i : Nat} (hi : i < 40) {o p t : Int32} : EV xs L (d + 0) 0 0 M_X3_becomeClause 434 h 0 [some (.ref (100 + 8 * i)), some (.int o), some (.int p), some (.int t)] [] (fun sz' h' r => r = []) := by
  refine r_aload_n rfl dX3_becomeClause_0 rfl ?_
  refine r_iload_n rfl dX3_becomeClause_1 rfl ?_
  obtain ⟨y52, y53, y54, y55, y56, y57, f51⟩ := hS.ln hi
  refine k_put 1 rfl dX3_becomeClause_2 (show 2 ≤ 100 + 8 * i ∧ 100 + 8 * i < 434 by omega) hS f51 (fp_X3_28 rfl _) (Nat.le_of_ble_eq_true rfl) (fun h58 hS59 => ?_)
  refine r_aload_n rfl dX3_becomeClause_5 rfl ?_
  refine r_iload_n rfl dX3_becomeClause_6 rfl ?_
  obtain ⟨y61, y62, y63, y64, y65, y66, f60⟩ := hS59.ln hi
  refine k_put 2 rfl dX3_becomeClause_7 (show 2 ≤ 100 + 8 * i ∧ 100 + 8 * i < 434 by omega) hS59 f60 (fp_X3_31 rfl _) (Nat.le_of_ble_eq_true rfl) (fun h67 hS68 => ?_)
  refine r_aload_n rfl dX3_becomeClause_10 rfl ?_
  refine r_iload_n rfl dX3_becomeClause_11 rfl ?_
  obtain ⟨y70, y71, y72, y73, y74, y75, f69⟩ := hS68.ln hi
  refine k_put 3 rfl dX3_becomeClause_12 (show 2 ≤ 100 + 8 * i ∧ 100 + 8 * i < 434 by omega) hS68 f69 (fp_X3_34 rfl _) (Nat.le_of_ble_eq_true rfl) (fun h76 hS77 => ?_)
  refine r_aload_n rfl dX3_becomeClause_15 rfl ?_
  refine r_bipush (v := (-9)) rfl dX3_becomeClause_16 (by decide) ?_
  obtain ⟨y79, y80, y81, y82, y83, y84, f78⟩ := hS77.ln hi
  refine k_put 4 rfl dX3_becomeClause_18 (show 2 ≤ 100 + 8 * i ∧ 100 + 8 * i < 434 by omega) hS77 f78 (fp_X3_17 rfl _) (Nat.le_of_ble_eq_true rfl) (fun h85 hS86 => ?_)
  refine r_aload_n rfl dX3_becomeClause_21 rfl ?_
  refine r_bipush (v := (-9)) rfl dX3_becomeClause_22 (by decide) ?_
  obtain ⟨y88, y89, y90, y91, y92, y93, f87⟩ := hS86.ln hi
  refine k_put 5 rfl dX3_becomeClause_24 (show 2 ≤ 100 + 8 * i ∧ 100 + 8 * i < 434 by omega) hS86 f87 (fp_X3_21 rfl _) (Nat.le_of_ble_eq_true rfl) (fun h94 hS95 => ?_)
  refine r_aload_n rfl dX3_becomeClause_27 rfl ?_
  refine r_bipush (v := (-9)) rfl dX3_becomeClause_28 (by decide) ?_
  obtain ⟨y97, y98, y99, y100, y101, y102, f96⟩ := hS95.ln hi
  refine k_put 6 rfl dX3_becomeClause_30 (show 2 ≤ 100 + 8 * i ∧ 100 + 8 * i < 434 by omega) hS95 f96 (fp_X3_24 rfl _) (Nat.le_of_ble_eq_true rfl) (fun h103 hS104 => ?_)
  exact r_ret dX3_becomeClause_33 (rt_v rfl) rfl
set_option maxRecDepth 20000 in
theorem s_X3_rememberCut {xs : Nat → Int32} {L d : Nat} {h : ev_H} (hS : SH h) {i : Nat} (hi : i < 40) {o p t : Int32} : EV xs L (d + 0) 0 0 M_X3_rememberCut 434 h 0 [some (.ref (100 + 8 * i)), some (.int o), some (.int p), some (.int t)] [] (fun sz' h' r => r = []) := by
  refine r_aload_n rfl dX3_rememberCut_0 rfl ?_
  refine r_iconst (v := 0) rfl dX3_rememberCut_1 (by decide) ?_
  obtain ⟨y52, y53, y54, y55, y56, y57, f51⟩ := hS.ln hi
  refine k_put 3 rfl dX3_rememberCut_2 (show 2 ≤ 100 + 8 * i ∧ 100 + 8 * i < 434 by omega) hS f51 (fp_X3_34 rfl _) (Nat.le_of_ble_eq_true rfl) (fun h58 hS59 => ?_)
  refine r_aload_n rfl dX3_rememberCut_5 rfl ?_
  refine r_iload_n rfl dX3_rememberCut_6 rfl ?_
  obtain ⟨y61, y62, y63, y64, y65, y66, f60⟩ := hS59.ln hi
  refine k_put 4 rfl dX3_rememberCut_7 (show 2 ≤ 100 + 8 * i ∧ 100 + 8 * i < 434 by omega) hS59 f60 (fp_X3_17 rfl _) (Nat.le_of_ble_eq_true rfl) (fun h67 hS68 => ?_)
  refine r_aload_n rfl dX3_rememberCut_10 rfl ?_
  refine r_iload_n rfl dX3_rememberCut_11 rfl ?_
  obtain ⟨y70, y71, y72, y73, y74, y75, f69⟩ := hS68.ln hi
  refine k_put 5 rfl dX3_rememberCut_12 (show 2 ≤ 100 + 8 * i ∧ 100 + 8 * i < 434 by omega) hS68 f69 (fp_X3_21 rfl _) (Nat.le_of_ble_eq_true rfl) (fun h76 hS77 => ?_)
  refine r_aload_n rfl dX3_rememberCut_15 rfl ?_
  refine r_iload_n rfl dX3_rememberCut_16 rfl ?_
  obtain ⟨y79, y80, y81, y82, y83, y84, f78⟩ := hS77.ln hi
  refine k_put 6 rfl dX3_rememberCut_17 (show 2 ≤ 100 + 8 * i ∧ 100 + 8 * i < 434 by omega) hS77 f78 (fp_X3_24 rfl _) (Nat.le_of_ble_eq_true rfl) (fun h85 hS86 => ?_)
  exact r_ret dX3_rememberCut_20 (rt_v rfl) rfl
set_option maxRecDepth 20000 in
theorem s_X3_sayAsClause {xs : Nat → Int32} {L d : Nat} {h : ev_H} (hS : SH h) {i : Nat} (hi : i < 40) {m : Int32} : EV xs L (d + 3) 0 0 M_X3_sayAsClause 434 h 0 [some (.ref (100 + 8 * i)), some (.int m)] [] (fun sz' h' r => r = []) := by
  refine r_aload_n rfl dX3_sayAsClause_0 rfl ?_
  obtain ⟨y52, y53, y54, y55, y56, y57, f51⟩ := hS.ln hi
  refine r_getv 3 rfl dX3_sayAsClause_1 (show 2 ≤ 100 + 8 * i ∧ 100 + 8 * i < 434 by omega) f51 fl_X3_34 rfl ?_
  refine r_iconst (v := 1) rfl dX3_sayAsClause_4 (by decide) ?_
  refine r_icmp_ne (tgt := 40) rfl rfl dX3_sayAsClause_5 (fun c58 => ?_) (fun c58 => ?_)
  · refine r_aload_n rfl dX3_sayAsClause_40 rfl ?_
    refine r_getv 0 rfl dX3_sayAsClause_41 (show 2 ≤ 100 + 8 * i ∧ 100 + 8 * i < 434 by omega) f51 fl_X3_11 rfl ?_
    refine r_iconst (v := 0) rfl dX3_sayAsClause_44 (by decide) ?_
    refine r_aald (jn := 0) (v := .ref (102 + 8 * i + 2 * 0)) rfl dX3_sayAsClause_45 (show 2 ≤ 101 + 8 * i ∧ 101 + 8 * i < 434 by omega).1 (show 2 ≤ 101 + 8 * i ∧ 101 + 8 * i < 434 by omega).2 (hS.say hi) (by decide) (by unfold vp_in; decide) rfl (by show va_rf (if _ < _ then _ else _) = _; rw [if_pos (show 0 < 3 by decide)]; rfl) ?_
    obtain ⟨g61, hw62⟩ := hS.ws (wsAt_ln hi (w := 0) (show 0 < 3 by decide))
    refine cl_X3_54 rfl rfl dX3_sayAsClause_46 (show _ ∧ _ from ⟨(wsAt_ln hi (w := 0) (show 0 < 3 by decide)).2.2.1, Nat.lt_of_succ_lt (wsAt_ln hi (w := 0) (show 0 < 3 by decide)).2.2.2⟩).1 (show _ ∧ _ from ⟨(wsAt_ln hi (w := 0) (show 0 < 3 by decide)).2.2.1, Nat.lt_of_succ_lt (wsAt_ln hi (w := 0) (show 0 < 3 by decide)).2.2.2⟩).2 hw62.2.2.1 (Nat.le_of_ble_eq_true rfl) ((s_X10_fill hw62).sh hS) ?_
    rintro _ h63 _ ⟨⟨rfl, -, rfl⟩, -, hS64, -⟩
    refine r_aload_n rfl dX3_sayAsClause_49 rfl ?_
    refine r_aload_n rfl dX3_sayAsClause_50 rfl ?_
    obtain ⟨y67, y68, y69, y70, y71, y72, f66⟩ := hS64.ln hi
    refine r_getv 0 rfl dX3_sayAsClause_51 (show 2 ≤ 100 + 8 * i ∧ 100 + 8 * i < 434 by omega) f66 fl_X3_11 rfl ?_
    refine r_iconst (v := 1) rfl dX3_sayAsClause_54 (by decide) ?_
    refine r_aald (jn := 1) (v := .ref (102 + 8 * i + 2 * 1)) rfl dX3_sayAsClause_55 (show 2 ≤ 101 + 8 * i ∧ 101 + 8 * i < 434 by omega).1 (show 2 ≤ 101 + 8 * i ∧ 101 + 8 * i < 434 by omega).2 (hS64.say hi) (by decide) (by unfold vp_in; decide) rfl (by show va_rf (if _ < _ then _ else _) = _; rw [if_pos (show 1 < 3 by decide)]; rfl) ?_
    refine r_iload_n rfl dX3_sayAsClause_56 rfl ?_
    refine cl_X3_50 rfl rfl dX3_sayAsClause_57 (show 2 ≤ 100 + 8 * i ∧ 100 + 8 * i < 434 by omega).1 (show 2 ≤ 100 + 8 * i ∧ 100 + 8 * i < 434 by omega).2 f66 (Nat.le_of_ble_eq_true rfl) ((s_X3_gatherWorlds hS64 hi (wsAt_ln hi (w := 1) (show 1 < 3 by decide))).sh hS64) ?_
    rintro _ h74 _ ⟨rfl, rfl, hS75, _⟩
    refine r_aload_n rfl dX3_sayAsClause_60 rfl ?_
    obtain ⟨y77, y78, y79, y80, y81, y82, f76⟩ := hS75.ln hi
    refine r_getv 0 rfl dX3_sayAsClause_61 (show 2 ≤ 100 + 8 * i ∧ 100 + 8 * i < 434 by omega) f76 fl_X3_11 rfl ?_
    refine r_iconst (v := 1) rfl dX3_sayAsClause_64 (by decide) ?_
    refine r_aald (jn := 1) (v := .ref (102 + 8 * i + 2 * 1)) rfl dX3_sayAsClause_65 (show 2 ≤ 101 + 8 * i ∧ 101 + 8 * i < 434 by omega).1 (show 2 ≤ 101 + 8 * i ∧ 101 + 8 * i < 434 by omega).2 (hS75.say hi) (by decide) (by unfold vp_in; decide) rfl (by show va_rf (if _ < _ then _ else _) = _; rw [if_pos (show 1 < 3 by decide)]; rfl) ?_
    obtain ⟨g85, hw86⟩ := hS75.ws (wsAt_ln hi (w := 1) (show 1 < 3 by decide))
    refine cl_X3_57 rfl rfl dX3_sayAsClause_66 (show _ ∧ _ from ⟨(wsAt_ln hi (w := 1) (show 1 < 3 by decide)).2.2.1, Nat.lt_of_succ_lt (wsAt_ln hi (w := 1) (show 1 < 3 by decide)).2.2.2⟩).1 (show _ ∧ _ from ⟨(wsAt_ln hi (w := 1) (show 1 < 3 by decide)).2.2.1, Nat.lt_of_succ_lt (wsAt_ln hi (w := 1) (show 1 < 3 by decide)).2.2.2⟩).2 hw86.2.2.1 (Nat.le_of_ble_eq_true rfl) ((s_X10_turn hw86).sh hS75) ?_
    rintro _ h87 _ ⟨⟨rfl, -, rfl⟩, -, hS88, -⟩
    refine r_aload_n rfl dX3_sayAsClause_69 rfl ?_
    obtain ⟨y91, y92, y93, y94, y95, y96, f90⟩ := hS88.ln hi
    refine r_getv 0 rfl dX3_sayAsClause_70 (show 2 ≤ 100 + 8 * i ∧ 100 + 8 * i < 434 by omega) f90 fl_X3_11 rfl ?_
    refine r_iconst (v := 2) rfl dX3_sayAsClause_73 (by decide) ?_
    refine r_aald (jn := 2) (v := .ref (102 + 8 * i + 2 * 2)) rfl dX3_sayAsClause_74 (show 2 ≤ 101 + 8 * i ∧ 101 + 8 * i < 434 by omega).1 (show 2 ≤ 101 + 8 * i ∧ 101 + 8 * i < 434 by omega).2 (hS88.say hi) (by decide) (by unfold vp_in; decide) rfl (by show va_rf (if _ < _ then _ else _) = _; rw [if_pos (show 2 < 3 by decide)]; rfl) ?_
    obtain ⟨g99, hw100⟩ := hS88.ws (wsAt_ln hi (w := 2) (show 2 < 3 by decide))
    refine cl_X3_54 rfl rfl dX3_sayAsClause_75 (show _ ∧ _ from ⟨(wsAt_ln hi (w := 2) (show 2 < 3 by decide)).2.2.1, Nat.lt_of_succ_lt (wsAt_ln hi (w := 2) (show 2 < 3 by decide)).2.2.2⟩).1 (show _ ∧ _ from ⟨(wsAt_ln hi (w := 2) (show 2 < 3 by decide)).2.2.1, Nat.lt_of_succ_lt (wsAt_ln hi (w := 2) (show 2 < 3 by decide)).2.2.2⟩).2 hw100.2.2.1 (Nat.le_of_ble_eq_true rfl) ((s_X10_fill hw100).sh hS88) ?_
    rintro _ h101 _ ⟨⟨rfl, -, rfl⟩, -, hS102, -⟩
    exact r_ret dX3_sayAsClause_78 (rt_v rfl) rfl
  · refine r_aload_n rfl dX3_sayAsClause_8 rfl ?_
    refine r_aload_n rfl dX3_sayAsClause_9 rfl ?_
    refine r_getv 0 rfl dX3_sayAsClause_10 (show 2 ≤ 100 + 8 * i ∧ 100 + 8 * i < 434 by omega) f51 fl_X3_11 rfl ?_
    refine r_iconst (v := 0) rfl dX3_sayAsClause_13 (by decide) ?_
    refine r_aald (jn := 0) (v := .ref (102 + 8 * i + 2 * 0)) rfl dX3_sayAsClause_14 (show 2 ≤ 101 + 8 * i ∧ 101 + 8 * i < 434 by omega).1 (show 2 ≤ 101 + 8 * i ∧ 101 + 8 * i < 434 by omega).2 (hS.say hi) (by decide) (by unfold vp_in; decide) rfl (by show va_rf (if _ < _ then _ else _) = _; rw [if_pos (show 0 < 3 by decide)]; rfl) ?_
    refine r_iload_n rfl dX3_sayAsClause_15 rfl ?_
    refine cl_X3_50 rfl rfl dX3_sayAsClause_16 (show 2 ≤ 100 + 8 * i ∧ 100 + 8 * i < 434 by omega).1 (show 2 ≤ 100 + 8 * i ∧ 100 + 8 * i < 434 by omega).2 f51 (Nat.le_of_ble_eq_true rfl) ((s_X3_gatherWorlds hS hi (wsAt_ln hi (w := 0) (show 0 < 3 by decide))).sh hS) ?_
    rintro _ h105 _ ⟨rfl, rfl, hS106, _⟩
    refine r_aload_n rfl dX3_sayAsClause_19 rfl ?_
    obtain ⟨y108, y109, y110, y111, y112, y113, f107⟩ := hS106.ln hi
    refine r_getv 0 rfl dX3_sayAsClause_20 (show 2 ≤ 100 + 8 * i ∧ 100 + 8 * i < 434 by omega) f107 fl_X3_11 rfl ?_
    refine r_iconst (v := 1) rfl dX3_sayAsClause_23 (by decide) ?_
    refine r_aald (jn := 1) (v := .ref (102 + 8 * i + 2 * 1)) rfl dX3_sayAsClause_24 (show 2 ≤ 101 + 8 * i ∧ 101 + 8 * i < 434 by omega).1 (show 2 ≤ 101 + 8 * i ∧ 101 + 8 * i < 434 by omega).2 (hS106.say hi) (by decide) (by unfold vp_in; decide) rfl (by show va_rf (if _ < _ then _ else _) = _; rw [if_pos (show 1 < 3 by decide)]; rfl) ?_
    obtain ⟨g116, hw117⟩ := hS106.ws (wsAt_ln hi (w := 1) (show 1 < 3 by decide))
    refine cl_X3_43 rfl rfl dX3_sayAsClause_25 (show _ ∧ _ from ⟨(wsAt_ln hi (w := 1) (show 1 < 3 by decide)).2.2.1, Nat.lt_of_succ_lt (wsAt_ln hi (w := 1) (show 1 < 3 by decide)).2.2.2⟩).1 (show _ ∧ _ from ⟨(wsAt_ln hi (w := 1) (show 1 < 3 by decide)).2.2.1, Nat.lt_of_succ_lt (wsAt_ln hi (w := 1) (show 1 < 3 by decide)).2.2.2⟩).2 hw117.2.2.1 (Nat.le_of_ble_eq_true rfl) ((s_X10_wipe hw117).sh hS106) ?_
    rintro _ h118 _ ⟨⟨rfl, -, rfl⟩, -, hS119, -⟩
    refine r_aload_n rfl dX3_sayAsClause_28 rfl ?_
    obtain ⟨y122, y123, y124, y125, y126, y127, f121⟩ := hS119.ln hi
    refine r_getv 0 rfl dX3_sayAsClause_29 (show 2 ≤ 100 + 8 * i ∧ 100 + 8 * i < 434 by omega) f121 fl_X3_11 rfl ?_
    refine r_iconst (v := 2) rfl dX3_sayAsClause_32 (by decide) ?_
    refine r_aald (jn := 2) (v := .ref (102 + 8 * i + 2 * 2)) rfl dX3_sayAsClause_33 (show 2 ≤ 101 + 8 * i ∧ 101 + 8 * i < 434 by omega).1 (show 2 ≤ 101 + 8 * i ∧ 101 + 8 * i < 434 by omega).2 (hS119.say hi) (by decide) (by unfold vp_in; decide) rfl (by show va_rf (if _ < _ then _ else _) = _; rw [if_pos (show 2 < 3 by decide)]; rfl) ?_
    obtain ⟨g130, hw131⟩ := hS119.ws (wsAt_ln hi (w := 2) (show 2 < 3 by decide))
    refine cl_X3_43 rfl rfl dX3_sayAsClause_34 (show _ ∧ _ from ⟨(wsAt_ln hi (w := 2) (show 2 < 3 by decide)).2.2.1, Nat.lt_of_succ_lt (wsAt_ln hi (w := 2) (show 2 < 3 by decide)).2.2.2⟩).1 (show _ ∧ _ from ⟨(wsAt_ln hi (w := 2) (show 2 < 3 by decide)).2.2.1, Nat.lt_of_succ_lt (wsAt_ln hi (w := 2) (show 2 < 3 by decide)).2.2.2⟩).2 hw131.2.2.1 (Nat.le_of_ble_eq_true rfl) ((s_X10_wipe hw131).sh hS119) ?_
    rintro _ h132 _ ⟨⟨rfl, -, rfl⟩, -, hS133, -⟩
    refine r_goto (pc' := 78) rfl dX3_sayAsClause_37 ?_
    exact r_ret dX3_sayAsClause_78 (rt_v rfl) rfl
set_option maxRecDepth 20000 in
theorem s_X3_becomeCut {xs : Nat → Int32} {L d : Nat} {h : ev_H} (hS : SH h) {i j l : Nat} (hi : i < 40) (hj : j < 40) (hl : l < 40) {c : Int32} : EV xs L (d + 0) 0 0 M_X3_becomeCut 434 h 0 [some (.ref (100 + 8 * i)), some (.ref (100 + 8 * j)), some (.ref (100 + 8 * l)), some (.int c), none, none, none] [] (fun sz' h' r => ∃ x : Int32, r = [.int x]) := by
  refine r_iconst (v := 1) rfl dX3_becomeCut_0 (by decide) ?_
  refine r_iload_n rfl dX3_becomeCut_1 rfl ?_
  refine r_ishl rfl dX3_becomeCut_2 ?_
  refine r_topi (fun x51 e52 => ?_)
  refine r_istore (ls' := [some (.ref (100 + 8 * i)), some (.ref (100 + 8 * j)), some (.ref (100 + 8 * l)), some (.int c), some (.int x51), none, none]) rfl dX3_becomeCut_3 (Nat.le_of_ble_eq_true rfl) rfl ?_
  refine r_aload_n rfl dX3_becomeCut_5 rfl ?_
  obtain ⟨y54, y55, y56, y57, y58, y59, f53⟩ := hS.ln hj
  refine r_getv 1 rfl dX3_becomeCut_6 (show 2 ≤ 100 + 8 * j ∧ 100 + 8 * j < 434 by omega) f53 fl_X3_28 rfl ?_
  refine r_iload rfl dX3_becomeCut_9 rfl ?_
  refine r_iand rfl dX3_becomeCut_11 ?_
  refine r_if_eq (tgt := 25) rfl rfl dX3_becomeCut_12 (fun c60 => ?_) (fun c60 => ?_)
  · refine r_iconst (v := 0) rfl dX3_becomeCut_25 (by decide) ?_
    exact r_ret dX3_becomeCut_26 (rt_z rfl (Or.inl rfl)) ⟨_, rfl⟩
  · refine r_aload_n rfl dX3_becomeCut_15 rfl ?_
    obtain ⟨y62, y63, y64, y65, y66, y67, f61⟩ := hS.ln hl
    refine r_getv 2 rfl dX3_becomeCut_16 (show 2 ≤ 100 + 8 * l ∧ 100 + 8 * l < 434 by omega) f61 fl_X3_31 rfl ?_
    refine r_iload rfl dX3_becomeCut_19 rfl ?_
    refine r_iand rfl dX3_becomeCut_21 ?_
    refine r_if_ne (tgt := 27) rfl rfl dX3_becomeCut_22 (fun c68 => ?_) (fun c68 => ?_)
    · refine r_aload_n rfl dX3_becomeCut_27 rfl ?_
      refine r_getv 1 rfl dX3_becomeCut_28 (show 2 ≤ 100 + 8 * j ∧ 100 + 8 * j < 434 by omega) f53 fl_X3_28 rfl ?_
      refine r_iload rfl dX3_becomeCut_31 rfl ?_
      refine r_iconst (v := (-1)) rfl dX3_becomeCut_33 (by decide) ?_
      refine r_ixor rfl dX3_becomeCut_34 ?_
      refine r_iand rfl dX3_becomeCut_35 ?_
      refine r_aload_n rfl dX3_becomeCut_36 rfl ?_
      refine r_getv 1 rfl dX3_becomeCut_37 (show 2 ≤ 100 + 8 * l ∧ 100 + 8 * l < 434 by omega) f61 fl_X3_28 rfl ?_
      refine r_ior rfl dX3_becomeCut_40 ?_
      refine r_topi (fun x69 e70 => ?_)
      refine r_istore (ls' := [some (.ref (100 + 8 * i)), some (.ref (100 + 8 * j)), some (.ref (100 + 8 * l)), some (.int c), some (.int x51), some (.int x69), none]) rfl dX3_becomeCut_41 (Nat.le_of_ble_eq_true rfl) rfl ?_
      refine r_aload_n rfl dX3_becomeCut_43 rfl ?_
      refine r_getv 2 rfl dX3_becomeCut_44 (show 2 ≤ 100 + 8 * j ∧ 100 + 8 * j < 434 by omega) f53 fl_X3_31 rfl ?_
      refine r_aload_n rfl dX3_becomeCut_47 rfl ?_
      refine r_getv 2 rfl dX3_becomeCut_48 (show 2 ≤ 100 + 8 * l ∧ 100 + 8 * l < 434 by omega) f61 fl_X3_31 rfl ?_
      refine r_iload rfl dX3_becomeCut_51 rfl ?_
      refine r_iconst (v := (-1)) rfl dX3_becomeCut_53 (by decide) ?_
      refine r_ixor rfl dX3_becomeCut_54 ?_
      refine r_iand rfl dX3_becomeCut_55 ?_
      refine r_ior rfl dX3_becomeCut_56 ?_
      refine r_topi (fun x71 e72 => ?_)
      refine r_istore (ls' := [some (.ref (100 + 8 * i)), some (.ref (100 + 8 * j)), some (.ref (100 + 8 * l)), some (.int c), some (.int x51), some (.int x69), some (.int x71)]) rfl dX3_becomeCut_57 (Nat.le_of_ble_eq_true rfl) rfl ?_
      refine r_iload rfl dX3_becomeCut_59 rfl ?_
      refine r_iload rfl dX3_becomeCut_61 rfl ?_
      refine r_iand rfl dX3_becomeCut_63 ?_
      refine r_if_eq (tgt := 69) rfl rfl dX3_becomeCut_64 (fun c73 => ?_) (fun c73 => ?_)
      · refine r_aload_n rfl dX3_becomeCut_69 rfl ?_
        refine r_iload rfl dX3_becomeCut_70 rfl ?_
        obtain ⟨y75, y76, y77, y78, y79, y80, f74⟩ := hS.ln hi
        refine k_put 1 rfl dX3_becomeCut_72 (show 2 ≤ 100 + 8 * i ∧ 100 + 8 * i < 434 by omega) hS f74 (fp_X3_28 rfl _) (Nat.le_of_ble_eq_true rfl) (fun h81 hS82 => ?_)
        refine r_aload_n rfl dX3_becomeCut_75 rfl ?_
        refine r_iload rfl dX3_becomeCut_76 rfl ?_
        obtain ⟨y84, y85, y86, y87, y88, y89, f83⟩ := hS82.ln hi
        refine k_put 2 rfl dX3_becomeCut_78 (show 2 ≤ 100 + 8 * i ∧ 100 + 8 * i < 434 by omega) hS82 f83 (fp_X3_31 rfl _) (Nat.le_of_ble_eq_true rfl) (fun h90 hS91 => ?_)
        refine r_iconst (v := 1) rfl dX3_becomeCut_81 (by decide) ?_
        exact r_ret dX3_becomeCut_82 (rt_z rfl (Or.inr rfl)) ⟨_, rfl⟩
      · refine r_iconst (v := 0) rfl dX3_becomeCut_67 (by decide) ?_
        exact r_ret dX3_becomeCut_68 (rt_z rfl (Or.inl rfl)) ⟨_, rfl⟩
    · refine r_iconst (v := 0) rfl dX3_becomeCut_25 (by decide) ?_
      exact r_ret dX3_becomeCut_26 (rt_z rfl (Or.inl rfl)) ⟨_, rfl⟩
def jns (a b : Int32) : Int32 := if b = 1 then (1) else (if ¬ b = 3 then (0) else (if ¬ a = 1 then (0) else (1)))
set_option maxRecDepth 20000 in
theorem s_X3_joins {xs : Nat → Int32} {L d sz : Nat} {h : ev_H} {a b : Int32}  : EV xs L (d + 0) 0 0 M_X3_joins sz h 0 [some (.int a), some (.int b)] [] (fun sz' h' r => sz' = sz ∧ h' = h ∧ r = [.int (jns a b)]) := by
  refine r_iload_n rfl dX3_joins_0 rfl ?_
  refine r_iconst (v := 1) rfl dX3_joins_1 (by decide) ?_
  refine r_icmp_eq (tgt := 15) rfl rfl dX3_joins_2 (fun c51 => ?_) (fun c51 => ?_)
  · refine r_iconst (v := 1) rfl dX3_joins_15 (by decide) ?_
    refine r_goto (pc' := 20) rfl dX3_joins_16 ?_
    exact r_ret dX3_joins_20 (rt_z rfl (Or.inr rfl)) ⟨rfl, rfl, (by unfold jns; rw [if_pos c51] <;> rfl)⟩
  · refine r_iload_n rfl dX3_joins_5 rfl ?_
    refine r_iconst (v := 3) rfl dX3_joins_6 (by decide) ?_
    refine r_icmp_ne (tgt := 19) rfl rfl dX3_joins_7 (fun c52 => ?_) (fun c52 => ?_)
    · refine r_iconst (v := 0) rfl dX3_joins_19 (by decide) ?_
      exact r_ret dX3_joins_20 (rt_z rfl (Or.inl rfl)) ⟨rfl, rfl, (by unfold jns; rw [if_neg c51, if_pos c52] <;> rfl)⟩
    · refine r_iload_n rfl dX3_joins_10 rfl ?_
      refine r_iconst (v := 1) rfl dX3_joins_11 (by decide) ?_
      refine r_icmp_ne (tgt := 19) rfl rfl dX3_joins_12 (fun c53 => ?_) (fun c53 => ?_)
      · refine r_iconst (v := 0) rfl dX3_joins_19 (by decide) ?_
        exact r_ret dX3_joins_20 (rt_z rfl (Or.inl rfl)) ⟨rfl, rfl, (by unfold jns; rw [if_neg c51, if_neg (fun z => z c52), if_pos c53] <;> rfl)⟩
      · refine r_iconst (v := 1) rfl dX3_joins_15 (by decide) ?_
        refine r_goto (pc' := 20) rfl dX3_joins_16 ?_
        exact r_ret dX3_joins_20 (rt_z rfl (Or.inr rfl)) ⟨rfl, rfl, (by unfold jns; rw [if_neg c51, if_neg (fun z => z c52), if_neg (fun z => z c53)] <;> rfl)⟩
set_option maxRecDepth 20000 in
theorem s_X3_sayAsCut {xs : Nat → Int32} {L d : Nat} {h : ev_H} (hS : SH h) {i j l : Nat} (hi : i < 40) (hj : j < 40) (hl : l < 40) (hij : i ≠ j) (hil : i ≠ l) {o : Int32} : EV xs L (d + 2) 0 0 M_X3_sayAsCut 434 h 0 [some (.ref (100 + 8 * i)), some (.ref (100 + 8 * j)), some (.ref (100 + 8 * l)), some (.int o), none, none, none] [] (fun sz' h' r => r = []) := by
  refine r_iconst (v := 0) rfl dX3_sayAsCut_0 (by decide) ?_
  refine r_istore (ls' := [some (.ref (100 + 8 * i)), some (.ref (100 + 8 * j)), some (.ref (100 + 8 * l)), some (.int o), some (.int 0), none, none]) rfl dX3_sayAsCut_1 (Nat.le_of_ble_eq_true rfl) rfl ?_
  refine r_iload rfl dX3_sayAsCut_3 rfl ?_
  refine r_iconst (v := 3) rfl dX3_sayAsCut_5 (by decide) ?_
  refine r_icmp_ge (tgt := 113) rfl rfl dX3_sayAsCut_6 (fun c => absurd c (by decide)) (fun _ => ?_)
  refine r_aload_n rfl dX3_sayAsCut_9 rfl ?_
  obtain ⟨y52, y53, y54, y55, y56, y57, f51⟩ := hS.ln hj
  refine r_getv 0 rfl dX3_sayAsCut_10 (show 2 ≤ 100 + 8 * j ∧ 100 + 8 * j < 434 by omega) f51 fl_X3_11 rfl ?_
  refine r_iload rfl dX3_sayAsCut_13 rfl ?_
  refine r_aald (jn := 0) (v := .ref (102 + 8 * j + 2 * 0)) rfl dX3_sayAsCut_15 (show 2 ≤ 101 + 8 * j ∧ 101 + 8 * j < 434 by omega).1 (show 2 ≤ 101 + 8 * j ∧ 101 + 8 * j < 434 by omega).2 (hS.say hj) (by decide) (by unfold vp_in; decide) rfl (by show va_rf (if _ < _ then _ else _) = _; rw [if_pos (show 0 < 3 by decide)]; rfl) ?_
  refine r_astore (ls' := [some (.ref (100 + 8 * i)), some (.ref (100 + 8 * j)), some (.ref (100 + 8 * l)), some (.int o), some (.int 0), some (.ref (102 + 8 * j + 2 * 0)), none]) rfl dX3_sayAsCut_16 (Nat.le_of_ble_eq_true rfl) rfl ?_
  refine r_aload_n rfl dX3_sayAsCut_18 rfl ?_
  obtain ⟨y60, y61, y62, y63, y64, y65, f59⟩ := hS.ln hl
  refine r_getv 0 rfl dX3_sayAsCut_19 (show 2 ≤ 100 + 8 * l ∧ 100 + 8 * l < 434 by omega) f59 fl_X3_11 rfl ?_
  refine r_iload rfl dX3_sayAsCut_22 rfl ?_
  refine r_aald (jn := 0) (v := .ref (102 + 8 * l + 2 * 0)) rfl dX3_sayAsCut_24 (show 2 ≤ 101 + 8 * l ∧ 101 + 8 * l < 434 by omega).1 (show 2 ≤ 101 + 8 * l ∧ 101 + 8 * l < 434 by omega).2 (hS.say hl) (by decide) (by unfold vp_in; decide) rfl (by show va_rf (if _ < _ then _ else _) = _; rw [if_pos (show 0 < 3 by decide)]; rfl) ?_
  refine r_astore (ls' := [some (.ref (100 + 8 * i)), some (.ref (100 + 8 * j)), some (.ref (100 + 8 * l)), some (.int o), some (.int 0), some (.ref (102 + 8 * j + 2 * 0)), some (.ref (102 + 8 * l + 2 * 0))]) rfl dX3_sayAsCut_25 (Nat.le_of_ble_eq_true rfl) rfl ?_
  refine r_iload rfl dX3_sayAsCut_27 rfl ?_
  refine r_iconst (v := 2) rfl dX3_sayAsCut_29 (by decide) ?_
  refine r_icmp_ne (tgt := 59) rfl rfl dX3_sayAsCut_30 (fun _ => ?_) (fun c => absurd c (by decide))
  refine r_aload_n rfl dX3_sayAsCut_59 rfl ?_
  obtain ⟨y68, y69, y70, y71, y72, y73, f67⟩ := hS.ln hi
  refine r_getv 0 rfl dX3_sayAsCut_60 (show 2 ≤ 100 + 8 * i ∧ 100 + 8 * i < 434 by omega) f67 fl_X3_11 rfl ?_
  refine r_iload rfl dX3_sayAsCut_63 rfl ?_
  refine r_aald (jn := 0) (v := .ref (102 + 8 * i + 2 * 0)) rfl dX3_sayAsCut_65 (show 2 ≤ 101 + 8 * i ∧ 101 + 8 * i < 434 by omega).1 (show 2 ≤ 101 + 8 * i ∧ 101 + 8 * i < 434 by omega).2 (hS.say hi) (by decide) (by unfold vp_in; decide) rfl (by show va_rf (if _ < _ then _ else _) = _; rw [if_pos (show 0 < 3 by decide)]; rfl) ?_
  refine r_aload rfl dX3_sayAsCut_66 rfl ?_
  obtain ⟨g76, hw77⟩ := hS.ws (wsAt_ln hi (w := 0) (show 0 < 3 by decide))
  obtain ⟨g79, hw80⟩ := hS.ws (wsAt_ln hj (w := 0) (show 0 < 3 by decide))
  refine cl_X3_64 rfl rfl dX3_sayAsCut_68 (show _ ∧ _ from ⟨(wsAt_ln hi (w := 0) (show 0 < 3 by decide)).2.2.1, Nat.lt_of_succ_lt (wsAt_ln hi (w := 0) (show 0 < 3 by decide)).2.2.2⟩).1 (show _ ∧ _ from ⟨(wsAt_ln hi (w := 0) (show 0 < 3 by decide)).2.2.1, Nat.lt_of_succ_lt (wsAt_ln hi (w := 0) (show 0 < 3 by decide)).2.2.2⟩).2 hw77.2.2.1 (Nat.le_of_ble_eq_true rfl) ((s_X10_become hw77 hw80 (by omega)).sh hS) ?_
  rintro _ h81 _ ⟨⟨rfl, -, rfl⟩, -, hS82, -⟩
  refine r_iload rfl dX3_sayAsCut_71 rfl ?_
  refine r_iload_n rfl dX3_sayAsCut_73 rfl ?_
  refine cl_X3_68 rfl rfl dX3_sayAsCut_74 (Nat.le_of_ble_eq_true rfl) s_X3_joins ?_
  rintro _ h84 _ ⟨rfl, e85, rfl⟩
  replace e85 := e85.symm
  subst e85
  refine r_if_eq (tgt := 95) rfl rfl dX3_sayAsCut_77 (fun c86 => ?_) (fun c86 => ?_)
  · refine r_aload_n rfl dX3_sayAsCut_95 rfl ?_
    obtain ⟨y88, y89, y90, y91, y92, y93, f87⟩ := hS82.ln hi
    refine r_getv 0 rfl dX3_sayAsCut_96 (show 2 ≤ 100 + 8 * i ∧ 100 + 8 * i < 434 by omega) f87 fl_X3_11 rfl ?_
    refine r_iload rfl dX3_sayAsCut_99 rfl ?_
    refine r_aald (jn := 0) (v := .ref (102 + 8 * i + 2 * 0)) rfl dX3_sayAsCut_101 (show 2 ≤ 101 + 8 * i ∧ 101 + 8 * i < 434 by omega).1 (show 2 ≤ 101 + 8 * i ∧ 101 + 8 * i < 434 by omega).2 (hS82.say hi) (by decide) (by unfold vp_in; decide) rfl (by show va_rf (if _ < _ then _ else _) = _; rw [if_pos (show 0 < 3 by decide)]; rfl) ?_
    refine r_aload rfl dX3_sayAsCut_102 rfl ?_
    obtain ⟨g96, hw97⟩ := hS82.ws (wsAt_ln hi (w := 0) (show 0 < 3 by decide))
    obtain ⟨g99, hw100⟩ := hS82.ws (wsAt_ln hl (w := 0) (show 0 < 3 by decide))
    refine cl_X3_75 rfl rfl dX3_sayAsCut_104 (show _ ∧ _ from ⟨(wsAt_ln hi (w := 0) (show 0 < 3 by decide)).2.2.1, Nat.lt_of_succ_lt (wsAt_ln hi (w := 0) (show 0 < 3 by decide)).2.2.2⟩).1 (show _ ∧ _ from ⟨(wsAt_ln hi (w := 0) (show 0 < 3 by decide)).2.2.1, Nat.lt_of_succ_lt (wsAt_ln hi (w := 0) (show 0 < 3 by decide)).2.2.2⟩).2 hw97.2.2.1 (Nat.le_of_ble_eq_true rfl) ((s_X10_meet hw97 hw100 (by omega)).sh hS82) ?_
    rintro _ h101 _ ⟨⟨rfl, -, rfl⟩, -, hS102, -⟩
    refine r_iinc (y := 1) (ls' := [some (.ref (100 + 8 * i)), some (.ref (100 + 8 * j)), some (.ref (100 + 8 * l)), some (.int o), some (.int 1), some (.ref (102 + 8 * j + 2 * 0)), some (.ref (102 + 8 * l + 2 * 0))]) rfl dX3_sayAsCut_107 rfl (by decide) (Nat.le_of_ble_eq_true rfl) rfl ?_
    refine r_goto (pc' := 3) rfl dX3_sayAsCut_110 ?_
    refine r_iload rfl dX3_sayAsCut_3 rfl ?_
    refine r_iconst (v := 3) rfl dX3_sayAsCut_5 (by decide) ?_
    refine r_icmp_ge (tgt := 113) rfl rfl dX3_sayAsCut_6 (fun c => absurd c (by decide)) (fun _ => ?_)
    refine r_aload_n rfl dX3_sayAsCut_9 rfl ?_
    obtain ⟨y105, y106, y107, y108, y109, y110, f104⟩ := hS102.ln hj
    refine r_getv 0 rfl dX3_sayAsCut_10 (show 2 ≤ 100 + 8 * j ∧ 100 + 8 * j < 434 by omega) f104 fl_X3_11 rfl ?_
    refine r_iload rfl dX3_sayAsCut_13 rfl ?_
    refine r_aald (jn := 1) (v := .ref (102 + 8 * j + 2 * 1)) rfl dX3_sayAsCut_15 (show 2 ≤ 101 + 8 * j ∧ 101 + 8 * j < 434 by omega).1 (show 2 ≤ 101 + 8 * j ∧ 101 + 8 * j < 434 by omega).2 (hS102.say hj) (by decide) (by unfold vp_in; decide) rfl (by show va_rf (if _ < _ then _ else _) = _; rw [if_pos (show 1 < 3 by decide)]; rfl) ?_
    refine r_astore (ls' := [some (.ref (100 + 8 * i)), some (.ref (100 + 8 * j)), some (.ref (100 + 8 * l)), some (.int o), some (.int 1), some (.ref (102 + 8 * j + 2 * 1)), some (.ref (102 + 8 * l + 2 * 0))]) rfl dX3_sayAsCut_16 (Nat.le_of_ble_eq_true rfl) rfl ?_
    refine r_aload_n rfl dX3_sayAsCut_18 rfl ?_
    obtain ⟨y113, y114, y115, y116, y117, y118, f112⟩ := hS102.ln hl
    refine r_getv 0 rfl dX3_sayAsCut_19 (show 2 ≤ 100 + 8 * l ∧ 100 + 8 * l < 434 by omega) f112 fl_X3_11 rfl ?_
    refine r_iload rfl dX3_sayAsCut_22 rfl ?_
    refine r_aald (jn := 1) (v := .ref (102 + 8 * l + 2 * 1)) rfl dX3_sayAsCut_24 (show 2 ≤ 101 + 8 * l ∧ 101 + 8 * l < 434 by omega).1 (show 2 ≤ 101 + 8 * l ∧ 101 + 8 * l < 434 by omega).2 (hS102.say hl) (by decide) (by unfold vp_in; decide) rfl (by show va_rf (if _ < _ then _ else _) = _; rw [if_pos (show 1 < 3 by decide)]; rfl) ?_
    refine r_astore (ls' := [some (.ref (100 + 8 * i)), some (.ref (100 + 8 * j)), some (.ref (100 + 8 * l)), some (.int o), some (.int 1), some (.ref (102 + 8 * j + 2 * 1)), some (.ref (102 + 8 * l + 2 * 1))]) rfl dX3_sayAsCut_25 (Nat.le_of_ble_eq_true rfl) rfl ?_
    refine r_iload rfl dX3_sayAsCut_27 rfl ?_
    refine r_iconst (v := 2) rfl dX3_sayAsCut_29 (by decide) ?_
    refine r_icmp_ne (tgt := 59) rfl rfl dX3_sayAsCut_30 (fun _ => ?_) (fun c => absurd c (by decide))
    refine r_aload_n rfl dX3_sayAsCut_59 rfl ?_
    obtain ⟨y121, y122, y123, y124, y125, y126, f120⟩ := hS102.ln hi
    refine r_getv 0 rfl dX3_sayAsCut_60 (show 2 ≤ 100 + 8 * i ∧ 100 + 8 * i < 434 by omega) f120 fl_X3_11 rfl ?_
    refine r_iload rfl dX3_sayAsCut_63 rfl ?_
    refine r_aald (jn := 1) (v := .ref (102 + 8 * i + 2 * 1)) rfl dX3_sayAsCut_65 (show 2 ≤ 101 + 8 * i ∧ 101 + 8 * i < 434 by omega).1 (show 2 ≤ 101 + 8 * i ∧ 101 + 8 * i < 434 by omega).2 (hS102.say hi) (by decide) (by unfold vp_in; decide) rfl (by show va_rf (if _ < _ then _ else _) = _; rw [if_pos (show 1 < 3 by decide)]; rfl) ?_
    refine r_aload rfl dX3_sayAsCut_66 rfl ?_
    obtain ⟨g129, hw130⟩ := hS102.ws (wsAt_ln hi (w := 1) (show 1 < 3 by decide))
    obtain ⟨g132, hw133⟩ := hS102.ws (wsAt_ln hj (w := 1) (show 1 < 3 by decide))
    refine cl_X3_64 rfl rfl dX3_sayAsCut_68 (show _ ∧ _ from ⟨(wsAt_ln hi (w := 1) (show 1 < 3 by decide)).2.2.1, Nat.lt_of_succ_lt (wsAt_ln hi (w := 1) (show 1 < 3 by decide)).2.2.2⟩).1 (show _ ∧ _ from ⟨(wsAt_ln hi (w := 1) (show 1 < 3 by decide)).2.2.1, Nat.lt_of_succ_lt (wsAt_ln hi (w := 1) (show 1 < 3 by decide)).2.2.2⟩).2 hw130.2.2.1 (Nat.le_of_ble_eq_true rfl) ((s_X10_become hw130 hw133 (by omega)).sh hS102) ?_
    rintro _ h134 _ ⟨⟨rfl, -, rfl⟩, -, hS135, -⟩
    refine r_iload rfl dX3_sayAsCut_71 rfl ?_
    refine r_iload_n rfl dX3_sayAsCut_73 rfl ?_
    refine cl_X3_68 rfl rfl dX3_sayAsCut_74 (Nat.le_of_ble_eq_true rfl) s_X3_joins ?_
    rintro _ h137 _ ⟨rfl, e138, rfl⟩
    replace e138 := e138.symm
    subst e138
    refine r_if_eq (tgt := 95) rfl rfl dX3_sayAsCut_77 (fun c139 => ?_) (fun c139 => ?_)
    · refine r_aload_n rfl dX3_sayAsCut_95 rfl ?_
      obtain ⟨y141, y142, y143, y144, y145, y146, f140⟩ := hS135.ln hi
      refine r_getv 0 rfl dX3_sayAsCut_96 (show 2 ≤ 100 + 8 * i ∧ 100 + 8 * i < 434 by omega) f140 fl_X3_11 rfl ?_
      refine r_iload rfl dX3_sayAsCut_99 rfl ?_
      refine r_aald (jn := 1) (v := .ref (102 + 8 * i + 2 * 1)) rfl dX3_sayAsCut_101 (show 2 ≤ 101 + 8 * i ∧ 101 + 8 * i < 434 by omega).1 (show 2 ≤ 101 + 8 * i ∧ 101 + 8 * i < 434 by omega).2 (hS135.say hi) (by decide) (by unfold vp_in; decide) rfl (by show va_rf (if _ < _ then _ else _) = _; rw [if_pos (show 1 < 3 by decide)]; rfl) ?_
      refine r_aload rfl dX3_sayAsCut_102 rfl ?_
      obtain ⟨g149, hw150⟩ := hS135.ws (wsAt_ln hi (w := 1) (show 1 < 3 by decide))
      obtain ⟨g152, hw153⟩ := hS135.ws (wsAt_ln hl (w := 1) (show 1 < 3 by decide))
      refine cl_X3_75 rfl rfl dX3_sayAsCut_104 (show _ ∧ _ from ⟨(wsAt_ln hi (w := 1) (show 1 < 3 by decide)).2.2.1, Nat.lt_of_succ_lt (wsAt_ln hi (w := 1) (show 1 < 3 by decide)).2.2.2⟩).1 (show _ ∧ _ from ⟨(wsAt_ln hi (w := 1) (show 1 < 3 by decide)).2.2.1, Nat.lt_of_succ_lt (wsAt_ln hi (w := 1) (show 1 < 3 by decide)).2.2.2⟩).2 hw150.2.2.1 (Nat.le_of_ble_eq_true rfl) ((s_X10_meet hw150 hw153 (by omega)).sh hS135) ?_
      rintro _ h154 _ ⟨⟨rfl, -, rfl⟩, -, hS155, -⟩
      refine r_iinc (y := 2) (ls' := [some (.ref (100 + 8 * i)), some (.ref (100 + 8 * j)), some (.ref (100 + 8 * l)), some (.int o), some (.int 2), some (.ref (102 + 8 * j + 2 * 1)), some (.ref (102 + 8 * l + 2 * 1))]) rfl dX3_sayAsCut_107 rfl (by decide) (Nat.le_of_ble_eq_true rfl) rfl ?_
      refine r_goto (pc' := 3) rfl dX3_sayAsCut_110 ?_
      refine r_iload rfl dX3_sayAsCut_3 rfl ?_
      refine r_iconst (v := 3) rfl dX3_sayAsCut_5 (by decide) ?_
      refine r_icmp_ge (tgt := 113) rfl rfl dX3_sayAsCut_6 (fun c => absurd c (by decide)) (fun _ => ?_)
      refine r_aload_n rfl dX3_sayAsCut_9 rfl ?_
      obtain ⟨y158, y159, y160, y161, y162, y163, f157⟩ := hS155.ln hj
      refine r_getv 0 rfl dX3_sayAsCut_10 (show 2 ≤ 100 + 8 * j ∧ 100 + 8 * j < 434 by omega) f157 fl_X3_11 rfl ?_
      refine r_iload rfl dX3_sayAsCut_13 rfl ?_
      refine r_aald (jn := 2) (v := .ref (102 + 8 * j + 2 * 2)) rfl dX3_sayAsCut_15 (show 2 ≤ 101 + 8 * j ∧ 101 + 8 * j < 434 by omega).1 (show 2 ≤ 101 + 8 * j ∧ 101 + 8 * j < 434 by omega).2 (hS155.say hj) (by decide) (by unfold vp_in; decide) rfl (by show va_rf (if _ < _ then _ else _) = _; rw [if_pos (show 2 < 3 by decide)]; rfl) ?_
      refine r_astore (ls' := [some (.ref (100 + 8 * i)), some (.ref (100 + 8 * j)), some (.ref (100 + 8 * l)), some (.int o), some (.int 2), some (.ref (102 + 8 * j + 2 * 2)), some (.ref (102 + 8 * l + 2 * 1))]) rfl dX3_sayAsCut_16 (Nat.le_of_ble_eq_true rfl) rfl ?_
      refine r_aload_n rfl dX3_sayAsCut_18 rfl ?_
      obtain ⟨y166, y167, y168, y169, y170, y171, f165⟩ := hS155.ln hl
      refine r_getv 0 rfl dX3_sayAsCut_19 (show 2 ≤ 100 + 8 * l ∧ 100 + 8 * l < 434 by omega) f165 fl_X3_11 rfl ?_
      refine r_iload rfl dX3_sayAsCut_22 rfl ?_
      refine r_aald (jn := 2) (v := .ref (102 + 8 * l + 2 * 2)) rfl dX3_sayAsCut_24 (show 2 ≤ 101 + 8 * l ∧ 101 + 8 * l < 434 by omega).1 (show 2 ≤ 101 + 8 * l ∧ 101 + 8 * l < 434 by omega).2 (hS155.say hl) (by decide) (by unfold vp_in; decide) rfl (by show va_rf (if _ < _ then _ else _) = _; rw [if_pos (show 2 < 3 by decide)]; rfl) ?_
      refine r_astore (ls' := [some (.ref (100 + 8 * i)), some (.ref (100 + 8 * j)), some (.ref (100 + 8 * l)), some (.int o), some (.int 2), some (.ref (102 + 8 * j + 2 * 2)), some (.ref (102 + 8 * l + 2 * 2))]) rfl dX3_sayAsCut_25 (Nat.le_of_ble_eq_true rfl) rfl ?_
      refine r_iload rfl dX3_sayAsCut_27 rfl ?_
      refine r_iconst (v := 2) rfl dX3_sayAsCut_29 (by decide) ?_
      refine r_icmp_ne (tgt := 59) rfl rfl dX3_sayAsCut_30 (fun c => absurd c (by decide)) (fun _ => ?_)
      refine r_iload_n rfl dX3_sayAsCut_33 rfl ?_
      refine r_iconst (v := 3) rfl dX3_sayAsCut_34 (by decide) ?_
      refine r_icmp_ne (tgt := 59) rfl rfl dX3_sayAsCut_35 (fun c173 => ?_) (fun c173 => ?_)
      · refine r_aload_n rfl dX3_sayAsCut_59 rfl ?_
        obtain ⟨y175, y176, y177, y178, y179, y180, f174⟩ := hS155.ln hi
        refine r_getv 0 rfl dX3_sayAsCut_60 (show 2 ≤ 100 + 8 * i ∧ 100 + 8 * i < 434 by omega) f174 fl_X3_11 rfl ?_
        refine r_iload rfl dX3_sayAsCut_63 rfl ?_
        refine r_aald (jn := 2) (v := .ref (102 + 8 * i + 2 * 2)) rfl dX3_sayAsCut_65 (show 2 ≤ 101 + 8 * i ∧ 101 + 8 * i < 434 by omega).1 (show 2 ≤ 101 + 8 * i ∧ 101 + 8 * i < 434 by omega).2 (hS155.say hi) (by decide) (by unfold vp_in; decide) rfl (by show va_rf (if _ < _ then _ else _) = _; rw [if_pos (show 2 < 3 by decide)]; rfl) ?_
        refine r_aload rfl dX3_sayAsCut_66 rfl ?_
        obtain ⟨g183, hw184⟩ := hS155.ws (wsAt_ln hi (w := 2) (show 2 < 3 by decide))
        obtain ⟨g186, hw187⟩ := hS155.ws (wsAt_ln hj (w := 2) (show 2 < 3 by decide))
        refine cl_X3_64 rfl rfl dX3_sayAsCut_68 (show _ ∧ _ from ⟨(wsAt_ln hi (w := 2) (show 2 < 3 by decide)).2.2.1, Nat.lt_of_succ_lt (wsAt_ln hi (w := 2) (show 2 < 3 by decide)).2.2.2⟩).1 (show _ ∧ _ from ⟨(wsAt_ln hi (w := 2) (show 2 < 3 by decide)).2.2.1, Nat.lt_of_succ_lt (wsAt_ln hi (w := 2) (show 2 < 3 by decide)).2.2.2⟩).2 hw184.2.2.1 (Nat.le_of_ble_eq_true rfl) ((s_X10_become hw184 hw187 (by omega)).sh hS155) ?_
        rintro _ h188 _ ⟨⟨rfl, -, rfl⟩, -, hS189, -⟩
        refine r_iload rfl dX3_sayAsCut_71 rfl ?_
        refine r_iload_n rfl dX3_sayAsCut_73 rfl ?_
        refine cl_X3_68 rfl rfl dX3_sayAsCut_74 (Nat.le_of_ble_eq_true rfl) s_X3_joins ?_
        rintro _ h191 _ ⟨rfl, e192, rfl⟩
        replace e192 := e192.symm
        subst e192
        refine r_if_eq (tgt := 95) rfl rfl dX3_sayAsCut_77 (fun c193 => ?_) (fun c193 => ?_)
        · refine r_aload_n rfl dX3_sayAsCut_95 rfl ?_
          obtain ⟨y195, y196, y197, y198, y199, y200, f194⟩ := hS189.ln hi
          refine r_getv 0 rfl dX3_sayAsCut_96 (show 2 ≤ 100 + 8 * i ∧ 100 + 8 * i < 434 by omega) f194 fl_X3_11 rfl ?_
          refine r_iload rfl dX3_sayAsCut_99 rfl ?_
          refine r_aald (jn := 2) (v := .ref (102 + 8 * i + 2 * 2)) rfl dX3_sayAsCut_101 (show 2 ≤ 101 + 8 * i ∧ 101 + 8 * i < 434 by omega).1 (show 2 ≤ 101 + 8 * i ∧ 101 + 8 * i < 434 by omega).2 (hS189.say hi) (by decide) (by unfold vp_in; decide) rfl (by show va_rf (if _ < _ then _ else _) = _; rw [if_pos (show 2 < 3 by decide)]; rfl) ?_
          refine r_aload rfl dX3_sayAsCut_102 rfl ?_
          obtain ⟨g203, hw204⟩ := hS189.ws (wsAt_ln hi (w := 2) (show 2 < 3 by decide))
          obtain ⟨g206, hw207⟩ := hS189.ws (wsAt_ln hl (w := 2) (show 2 < 3 by decide))
          refine cl_X3_75 rfl rfl dX3_sayAsCut_104 (show _ ∧ _ from ⟨(wsAt_ln hi (w := 2) (show 2 < 3 by decide)).2.2.1, Nat.lt_of_succ_lt (wsAt_ln hi (w := 2) (show 2 < 3 by decide)).2.2.2⟩).1 (show _ ∧ _ from ⟨(wsAt_ln hi (w := 2) (show 2 < 3 by decide)).2.2.1, Nat.lt_of_succ_lt (wsAt_ln hi (w := 2) (show 2 < 3 by decide)).2.2.2⟩).2 hw204.2.2.1 (Nat.le_of_ble_eq_true rfl) ((s_X10_meet hw204 hw207 (by omega)).sh hS189) ?_
          rintro _ h208 _ ⟨⟨rfl, -, rfl⟩, -, hS209, -⟩
          refine r_iinc (y := 3) (ls' := [some (.ref (100 + 8 * i)), some (.ref (100 + 8 * j)), some (.ref (100 + 8 * l)), some (.int o), some (.int 3), some (.ref (102 + 8 * j + 2 * 2)), some (.ref (102 + 8 * l + 2 * 2))]) rfl dX3_sayAsCut_107 rfl (by decide) (Nat.le_of_ble_eq_true rfl) rfl ?_
          refine r_goto (pc' := 3) rfl dX3_sayAsCut_110 ?_
          refine r_iload rfl dX3_sayAsCut_3 rfl ?_
          refine r_iconst (v := 3) rfl dX3_sayAsCut_5 (by decide) ?_
          refine r_icmp_ge (tgt := 113) rfl rfl dX3_sayAsCut_6 (fun _ => ?_) (fun c => absurd c (by decide))
          exact r_ret dX3_sayAsCut_113 (rt_v rfl) rfl
        · refine r_aload_n rfl dX3_sayAsCut_80 rfl ?_
          obtain ⟨y212, y213, y214, y215, y216, y217, f211⟩ := hS189.ln hi
          refine r_getv 0 rfl dX3_sayAsCut_81 (show 2 ≤ 100 + 8 * i ∧ 100 + 8 * i < 434 by omega) f211 fl_X3_11 rfl ?_
          refine r_iload rfl dX3_sayAsCut_84 rfl ?_
          refine r_aald (jn := 2) (v := .ref (102 + 8 * i + 2 * 2)) rfl dX3_sayAsCut_86 (show 2 ≤ 101 + 8 * i ∧ 101 + 8 * i < 434 by omega).1 (show 2 ≤ 101 + 8 * i ∧ 101 + 8 * i < 434 by omega).2 (hS189.say hi) (by decide) (by unfold vp_in; decide) rfl (by show va_rf (if _ < _ then _ else _) = _; rw [if_pos (show 2 < 3 by decide)]; rfl) ?_
          refine r_aload rfl dX3_sayAsCut_87 rfl ?_
          obtain ⟨g220, hw221⟩ := hS189.ws (wsAt_ln hi (w := 2) (show 2 < 3 by decide))
          obtain ⟨g223, hw224⟩ := hS189.ws (wsAt_ln hl (w := 2) (show 2 < 3 by decide))
          refine cl_X3_72 rfl rfl dX3_sayAsCut_89 (show _ ∧ _ from ⟨(wsAt_ln hi (w := 2) (show 2 < 3 by decide)).2.2.1, Nat.lt_of_succ_lt (wsAt_ln hi (w := 2) (show 2 < 3 by decide)).2.2.2⟩).1 (show _ ∧ _ from ⟨(wsAt_ln hi (w := 2) (show 2 < 3 by decide)).2.2.1, Nat.lt_of_succ_lt (wsAt_ln hi (w := 2) (show 2 < 3 by decide)).2.2.2⟩).2 hw221.2.2.1 (Nat.le_of_ble_eq_true rfl) ((s_X10_join hw221 hw224 (by omega)).sh hS189) ?_
          rintro _ h225 _ ⟨⟨rfl, -, rfl⟩, -, hS226, -⟩
          refine r_goto (pc' := 107) rfl dX3_sayAsCut_92 ?_
          refine r_iinc (y := 3) (ls' := [some (.ref (100 + 8 * i)), some (.ref (100 + 8 * j)), some (.ref (100 + 8 * l)), some (.int o), some (.int 3), some (.ref (102 + 8 * j + 2 * 2)), some (.ref (102 + 8 * l + 2 * 2))]) rfl dX3_sayAsCut_107 rfl (by decide) (Nat.le_of_ble_eq_true rfl) rfl ?_
          refine r_goto (pc' := 3) rfl dX3_sayAsCut_110 ?_
          refine r_iload rfl dX3_sayAsCut_3 rfl ?_
          refine r_iconst (v := 3) rfl dX3_sayAsCut_5 (by decide) ?_
          refine r_icmp_ge (tgt := 113) rfl rfl dX3_sayAsCut_6 (fun _ => ?_) (fun c => absurd c (by decide))
          exact r_ret dX3_sayAsCut_113 (rt_v rfl) rfl
      · refine r_aload_n rfl dX3_sayAsCut_38 rfl ?_
        obtain ⟨y229, y230, y231, y232, y233, y234, f228⟩ := hS155.ln hi
        refine r_getv 0 rfl dX3_sayAsCut_39 (show 2 ≤ 100 + 8 * i ∧ 100 + 8 * i < 434 by omega) f228 fl_X3_11 rfl ?_
        refine r_iload rfl dX3_sayAsCut_42 rfl ?_
        refine r_aald (jn := 2) (v := .ref (102 + 8 * i + 2 * 2)) rfl dX3_sayAsCut_44 (show 2 ≤ 101 + 8 * i ∧ 101 + 8 * i < 434 by omega).1 (show 2 ≤ 101 + 8 * i ∧ 101 + 8 * i < 434 by omega).2 (hS155.say hi) (by decide) (by unfold vp_in; decide) rfl (by show va_rf (if _ < _ then _ else _) = _; rw [if_pos (show 2 < 3 by decide)]; rfl) ?_
        refine r_aload_n rfl dX3_sayAsCut_45 rfl ?_
        refine r_getv 6 rfl dX3_sayAsCut_46 (show 2 ≤ 100 + 8 * i ∧ 100 + 8 * i < 434 by omega) f228 fl_X3_24 rfl ?_
        refine r_aload rfl dX3_sayAsCut_49 rfl ?_
        refine r_aload rfl dX3_sayAsCut_51 rfl ?_
        obtain ⟨g237, hw238⟩ := hS155.ws (wsAt_ln hi (w := 2) (show 2 < 3 by decide))
        obtain ⟨g240, hw241⟩ := hS155.ws (wsAt_ln hl (w := 2) (show 2 < 3 by decide))
        obtain ⟨g243, hw244⟩ := hS155.ws (wsAt_ln hj (w := 2) (show 2 < 3 by decide))
        refine cl_X3_60 rfl rfl dX3_sayAsCut_53 (show _ ∧ _ from ⟨(wsAt_ln hi (w := 2) (show 2 < 3 by decide)).2.2.1, Nat.lt_of_succ_lt (wsAt_ln hi (w := 2) (show 2 < 3 by decide)).2.2.2⟩).1 (show _ ∧ _ from ⟨(wsAt_ln hi (w := 2) (show 2 < 3 by decide)).2.2.1, Nat.lt_of_succ_lt (wsAt_ln hi (w := 2) (show 2 < 3 by decide)).2.2.2⟩).2 hw238.2.2.1 (Nat.le_of_ble_eq_true rfl) ((s_X10_choose hw238 hw241 hw244 (by omega) (by omega)).sh hS155) ?_
        rintro _ h245 _ ⟨⟨rfl, -, rfl⟩, -, hS246, -⟩
        refine r_goto (pc' := 107) rfl dX3_sayAsCut_56 ?_
        refine r_iinc (y := 3) (ls' := [some (.ref (100 + 8 * i)), some (.ref (100 + 8 * j)), some (.ref (100 + 8 * l)), some (.int o), some (.int 3), some (.ref (102 + 8 * j + 2 * 2)), some (.ref (102 + 8 * l + 2 * 2))]) rfl dX3_sayAsCut_107 rfl (by decide) (Nat.le_of_ble_eq_true rfl) rfl ?_
        refine r_goto (pc' := 3) rfl dX3_sayAsCut_110 ?_
        refine r_iload rfl dX3_sayAsCut_3 rfl ?_
        refine r_iconst (v := 3) rfl dX3_sayAsCut_5 (by decide) ?_
        refine r_icmp_ge (tgt := 113) rfl rfl dX3_sayAsCut_6 (fun _ => ?_) (fun c => absurd c (by decide))
        exact r_ret dX3_sayAsCut_113 (rt_v rfl) rfl
    · refine r_aload_n rfl dX3_sayAsCut_80 rfl ?_
      obtain ⟨y249, y250, y251, y252, y253, y254, f248⟩ := hS135.ln hi
      refine r_getv 0 rfl dX3_sayAsCut_81 (show 2 ≤ 100 + 8 * i ∧ 100 + 8 * i < 434 by omega) f248 fl_X3_11 rfl ?_
      refine r_iload rfl dX3_sayAsCut_84 rfl ?_
      refine r_aald (jn := 1) (v := .ref (102 + 8 * i + 2 * 1)) rfl dX3_sayAsCut_86 (show 2 ≤ 101 + 8 * i ∧ 101 + 8 * i < 434 by omega).1 (show 2 ≤ 101 + 8 * i ∧ 101 + 8 * i < 434 by omega).2 (hS135.say hi) (by decide) (by unfold vp_in; decide) rfl (by show va_rf (if _ < _ then _ else _) = _; rw [if_pos (show 1 < 3 by decide)]; rfl) ?_
      refine r_aload rfl dX3_sayAsCut_87 rfl ?_
      obtain ⟨g257, hw258⟩ := hS135.ws (wsAt_ln hi (w := 1) (show 1 < 3 by decide))
      obtain ⟨g260, hw261⟩ := hS135.ws (wsAt_ln hl (w := 1) (show 1 < 3 by decide))
      refine cl_X3_72 rfl rfl dX3_sayAsCut_89 (show _ ∧ _ from ⟨(wsAt_ln hi (w := 1) (show 1 < 3 by decide)).2.2.1, Nat.lt_of_succ_lt (wsAt_ln hi (w := 1) (show 1 < 3 by decide)).2.2.2⟩).1 (show _ ∧ _ from ⟨(wsAt_ln hi (w := 1) (show 1 < 3 by decide)).2.2.1, Nat.lt_of_succ_lt (wsAt_ln hi (w := 1) (show 1 < 3 by decide)).2.2.2⟩).2 hw258.2.2.1 (Nat.le_of_ble_eq_true rfl) ((s_X10_join hw258 hw261 (by omega)).sh hS135) ?_
      rintro _ h262 _ ⟨⟨rfl, -, rfl⟩, -, hS263, -⟩
      refine r_goto (pc' := 107) rfl dX3_sayAsCut_92 ?_
      refine r_iinc (y := 2) (ls' := [some (.ref (100 + 8 * i)), some (.ref (100 + 8 * j)), some (.ref (100 + 8 * l)), some (.int o), some (.int 2), some (.ref (102 + 8 * j + 2 * 1)), some (.ref (102 + 8 * l + 2 * 1))]) rfl dX3_sayAsCut_107 rfl (by decide) (Nat.le_of_ble_eq_true rfl) rfl ?_
      refine r_goto (pc' := 3) rfl dX3_sayAsCut_110 ?_
      refine r_iload rfl dX3_sayAsCut_3 rfl ?_
      refine r_iconst (v := 3) rfl dX3_sayAsCut_5 (by decide) ?_
      refine r_icmp_ge (tgt := 113) rfl rfl dX3_sayAsCut_6 (fun c => absurd c (by decide)) (fun _ => ?_)
      refine r_aload_n rfl dX3_sayAsCut_9 rfl ?_
      obtain ⟨y266, y267, y268, y269, y270, y271, f265⟩ := hS263.ln hj
      refine r_getv 0 rfl dX3_sayAsCut_10 (show 2 ≤ 100 + 8 * j ∧ 100 + 8 * j < 434 by omega) f265 fl_X3_11 rfl ?_
      refine r_iload rfl dX3_sayAsCut_13 rfl ?_
      refine r_aald (jn := 2) (v := .ref (102 + 8 * j + 2 * 2)) rfl dX3_sayAsCut_15 (show 2 ≤ 101 + 8 * j ∧ 101 + 8 * j < 434 by omega).1 (show 2 ≤ 101 + 8 * j ∧ 101 + 8 * j < 434 by omega).2 (hS263.say hj) (by decide) (by unfold vp_in; decide) rfl (by show va_rf (if _ < _ then _ else _) = _; rw [if_pos (show 2 < 3 by decide)]; rfl) ?_
      refine r_astore (ls' := [some (.ref (100 + 8 * i)), some (.ref (100 + 8 * j)), some (.ref (100 + 8 * l)), some (.int o), some (.int 2), some (.ref (102 + 8 * j + 2 * 2)), some (.ref (102 + 8 * l + 2 * 1))]) rfl dX3_sayAsCut_16 (Nat.le_of_ble_eq_true rfl) rfl ?_
      refine r_aload_n rfl dX3_sayAsCut_18 rfl ?_
      obtain ⟨y274, y275, y276, y277, y278, y279, f273⟩ := hS263.ln hl
      refine r_getv 0 rfl dX3_sayAsCut_19 (show 2 ≤ 100 + 8 * l ∧ 100 + 8 * l < 434 by omega) f273 fl_X3_11 rfl ?_
      refine r_iload rfl dX3_sayAsCut_22 rfl ?_
      refine r_aald (jn := 2) (v := .ref (102 + 8 * l + 2 * 2)) rfl dX3_sayAsCut_24 (show 2 ≤ 101 + 8 * l ∧ 101 + 8 * l < 434 by omega).1 (show 2 ≤ 101 + 8 * l ∧ 101 + 8 * l < 434 by omega).2 (hS263.say hl) (by decide) (by unfold vp_in; decide) rfl (by show va_rf (if _ < _ then _ else _) = _; rw [if_pos (show 2 < 3 by decide)]; rfl) ?_
      refine r_astore (ls' := [some (.ref (100 + 8 * i)), some (.ref (100 + 8 * j)), some (.ref (100 + 8 * l)), some (.int o), some (.int 2), some (.ref (102 + 8 * j + 2 * 2)), some (.ref (102 + 8 * l + 2 * 2))]) rfl dX3_sayAsCut_25 (Nat.le_of_ble_eq_true rfl) rfl ?_
      refine r_iload rfl dX3_sayAsCut_27 rfl ?_
      refine r_iconst (v := 2) rfl dX3_sayAsCut_29 (by decide) ?_
      refine r_icmp_ne (tgt := 59) rfl rfl dX3_sayAsCut_30 (fun c => absurd c (by decide)) (fun _ => ?_)
      refine r_iload_n rfl dX3_sayAsCut_33 rfl ?_
      refine r_iconst (v := 3) rfl dX3_sayAsCut_34 (by decide) ?_
      refine r_icmp_ne (tgt := 59) rfl rfl dX3_sayAsCut_35 (fun c281 => ?_) (fun c281 => ?_)
      · refine r_aload_n rfl dX3_sayAsCut_59 rfl ?_
        obtain ⟨y283, y284, y285, y286, y287, y288, f282⟩ := hS263.ln hi
        refine r_getv 0 rfl dX3_sayAsCut_60 (show 2 ≤ 100 + 8 * i ∧ 100 + 8 * i < 434 by omega) f282 fl_X3_11 rfl ?_
        refine r_iload rfl dX3_sayAsCut_63 rfl ?_
        refine r_aald (jn := 2) (v := .ref (102 + 8 * i + 2 * 2)) rfl dX3_sayAsCut_65 (show 2 ≤ 101 + 8 * i ∧ 101 + 8 * i < 434 by omega).1 (show 2 ≤ 101 + 8 * i ∧ 101 + 8 * i < 434 by omega).2 (hS263.say hi) (by decide) (by unfold vp_in; decide) rfl (by show va_rf (if _ < _ then _ else _) = _; rw [if_pos (show 2 < 3 by decide)]; rfl) ?_
        refine r_aload rfl dX3_sayAsCut_66 rfl ?_
        obtain ⟨g291, hw292⟩ := hS263.ws (wsAt_ln hi (w := 2) (show 2 < 3 by decide))
        obtain ⟨g294, hw295⟩ := hS263.ws (wsAt_ln hj (w := 2) (show 2 < 3 by decide))
        refine cl_X3_64 rfl rfl dX3_sayAsCut_68 (show _ ∧ _ from ⟨(wsAt_ln hi (w := 2) (show 2 < 3 by decide)).2.2.1, Nat.lt_of_succ_lt (wsAt_ln hi (w := 2) (show 2 < 3 by decide)).2.2.2⟩).1 (show _ ∧ _ from ⟨(wsAt_ln hi (w := 2) (show 2 < 3 by decide)).2.2.1, Nat.lt_of_succ_lt (wsAt_ln hi (w := 2) (show 2 < 3 by decide)).2.2.2⟩).2 hw292.2.2.1 (Nat.le_of_ble_eq_true rfl) ((s_X10_become hw292 hw295 (by omega)).sh hS263) ?_
        rintro _ h296 _ ⟨⟨rfl, -, rfl⟩, -, hS297, -⟩
        refine r_iload rfl dX3_sayAsCut_71 rfl ?_
        refine r_iload_n rfl dX3_sayAsCut_73 rfl ?_
        refine cl_X3_68 rfl rfl dX3_sayAsCut_74 (Nat.le_of_ble_eq_true rfl) s_X3_joins ?_
        rintro _ h299 _ ⟨rfl, e300, rfl⟩
        replace e300 := e300.symm
        subst e300
        refine r_if_eq (tgt := 95) rfl rfl dX3_sayAsCut_77 (fun c301 => ?_) (fun c301 => ?_)
        · refine r_aload_n rfl dX3_sayAsCut_95 rfl ?_
          obtain ⟨y303, y304, y305, y306, y307, y308, f302⟩ := hS297.ln hi
          refine r_getv 0 rfl dX3_sayAsCut_96 (show 2 ≤ 100 + 8 * i ∧ 100 + 8 * i < 434 by omega) f302 fl_X3_11 rfl ?_
          refine r_iload rfl dX3_sayAsCut_99 rfl ?_
          refine r_aald (jn := 2) (v := .ref (102 + 8 * i + 2 * 2)) rfl dX3_sayAsCut_101 (show 2 ≤ 101 + 8 * i ∧ 101 + 8 * i < 434 by omega).1 (show 2 ≤ 101 + 8 * i ∧ 101 + 8 * i < 434 by omega).2 (hS297.say hi) (by decide) (by unfold vp_in; decide) rfl (by show va_rf (if _ < _ then _ else _) = _; rw [if_pos (show 2 < 3 by decide)]; rfl) ?_
          refine r_aload rfl dX3_sayAsCut_102 rfl ?_
          obtain ⟨g311, hw312⟩ := hS297.ws (wsAt_ln hi (w := 2) (show 2 < 3 by decide))
          obtain ⟨g314, hw315⟩ := hS297.ws (wsAt_ln hl (w := 2) (show 2 < 3 by decide))
          refine cl_X3_75 rfl rfl dX3_sayAsCut_104 (show _ ∧ _ from ⟨(wsAt_ln hi (w := 2) (show 2 < 3 by decide)).2.2.1, Nat.lt_of_succ_lt (wsAt_ln hi (w := 2) (show 2 < 3 by decide)).2.2.2⟩).1 (show _ ∧ _ from ⟨(wsAt_ln hi (w := 2) (show 2 < 3 by decide)).2.2.1, Nat.lt_of_succ_lt (wsAt_ln hi (w := 2) (show 2 < 3 by decide)).2.2.2⟩).2 hw312.2.2.1 (Nat.le_of_ble_eq_true rfl) ((s_X10_meet hw312 hw315 (by omega)).sh hS297) ?_
          rintro _ h316 _ ⟨⟨rfl, -, rfl⟩, -, hS317, -⟩
          refine r_iinc (y := 3) (ls' := [some (.ref (100 + 8 * i)), some (.ref (100 + 8 * j)), some (.ref (100 + 8 * l)), some (.int o), some (.int 3), some (.ref (102 + 8 * j + 2 * 2)), some (.ref (102 + 8 * l + 2 * 2))]) rfl dX3_sayAsCut_107 rfl (by decide) (Nat.le_of_ble_eq_true rfl) rfl ?_
          refine r_goto (pc' := 3) rfl dX3_sayAsCut_110 ?_
          refine r_iload rfl dX3_sayAsCut_3 rfl ?_
          refine r_iconst (v := 3) rfl dX3_sayAsCut_5 (by decide) ?_
          refine r_icmp_ge (tgt := 113) rfl rfl dX3_sayAsCut_6 (fun _ => ?_) (fun c => absurd c (by decide))
          exact r_ret dX3_sayAsCut_113 (rt_v rfl) rfl
        · refine r_aload_n rfl dX3_sayAsCut_80 rfl ?_
          obtain ⟨y320, y321, y322, y323, y324, y325, f319⟩ := hS297.ln hi
          refine r_getv 0 rfl dX3_sayAsCut_81 (show 2 ≤ 100 + 8 * i ∧ 100 + 8 * i < 434 by omega) f319 fl_X3_11 rfl ?_
          refine r_iload rfl dX3_sayAsCut_84 rfl ?_
          refine r_aald (jn := 2) (v := .ref (102 + 8 * i + 2 * 2)) rfl dX3_sayAsCut_86 (show 2 ≤ 101 + 8 * i ∧ 101 + 8 * i < 434 by omega).1 (show 2 ≤ 101 + 8 * i ∧ 101 + 8 * i < 434 by omega).2 (hS297.say hi) (by decide) (by unfold vp_in; decide) rfl (by show va_rf (if _ < _ then _ else _) = _; rw [if_pos (show 2 < 3 by decide)]; rfl) ?_
          refine r_aload rfl dX3_sayAsCut_87 rfl ?_
          obtain ⟨g328, hw329⟩ := hS297.ws (wsAt_ln hi (w := 2) (show 2 < 3 by decide))
          obtain ⟨g331, hw332⟩ := hS297.ws (wsAt_ln hl (w := 2) (show 2 < 3 by decide))
          refine cl_X3_72 rfl rfl dX3_sayAsCut_89 (show _ ∧ _ from ⟨(wsAt_ln hi (w := 2) (show 2 < 3 by decide)).2.2.1, Nat.lt_of_succ_lt (wsAt_ln hi (w := 2) (show 2 < 3 by decide)).2.2.2⟩).1 (show _ ∧ _ from ⟨(wsAt_ln hi (w := 2) (show 2 < 3 by decide)).2.2.1, Nat.lt_of_succ_lt (wsAt_ln hi (w := 2) (show 2 < 3 by decide)).2.2.2⟩).2 hw329.2.2.1 (Nat.le_of_ble_eq_true rfl) ((s_X10_join hw329 hw332 (by omega)).sh hS297) ?_
          rintro _ h333 _ ⟨⟨rfl, -, rfl⟩, -, hS334, -⟩
          refine r_goto (pc' := 107) rfl dX3_sayAsCut_92 ?_
          refine r_iinc (y := 3) (ls' := [some (.ref (100 + 8 * i)), some (.ref (100 + 8 * j)), some (.ref (100 + 8 * l)), some (.int o), some (.int 3), some (.ref (102 + 8 * j + 2 * 2)), some (.ref (102 + 8 * l + 2 * 2))]) rfl dX3_sayAsCut_107 rfl (by decide) (Nat.le_of_ble_eq_true rfl) rfl ?_
          refine r_goto (pc' := 3) rfl dX3_sayAsCut_110 ?_
          refine r_iload rfl dX3_sayAsCut_3 rfl ?_
          refine r_iconst (v := 3) rfl dX3_sayAsCut_5 (by decide) ?_
          refine r_icmp_ge (tgt := 113) rfl rfl dX3_sayAsCut_6 (fun _ => ?_) (fun c => absurd c (by decide))
          exact r_ret dX3_sayAsCut_113 (rt_v rfl) rfl
      · refine r_aload_n rfl dX3_sayAsCut_38 rfl ?_
        obtain ⟨y337, y338, y339, y340, y341, y342, f336⟩ := hS263.ln hi
        refine r_getv 0 rfl dX3_sayAsCut_39 (show 2 ≤ 100 + 8 * i ∧ 100 + 8 * i < 434 by omega) f336 fl_X3_11 rfl ?_
        refine r_iload rfl dX3_sayAsCut_42 rfl ?_
        refine r_aald (jn := 2) (v := .ref (102 + 8 * i + 2 * 2)) rfl dX3_sayAsCut_44 (show 2 ≤ 101 + 8 * i ∧ 101 + 8 * i < 434 by omega).1 (show 2 ≤ 101 + 8 * i ∧ 101 + 8 * i < 434 by omega).2 (hS263.say hi) (by decide) (by unfold vp_in; decide) rfl (by show va_rf (if _ < _ then _ else _) = _; rw [if_pos (show 2 < 3 by decide)]; rfl) ?_
        refine r_aload_n rfl dX3_sayAsCut_45 rfl ?_
        refine r_getv 6 rfl dX3_sayAsCut_46 (show 2 ≤ 100 + 8 * i ∧ 100 + 8 * i < 434 by omega) f336 fl_X3_24 rfl ?_
        refine r_aload rfl dX3_sayAsCut_49 rfl ?_
        refine r_aload rfl dX3_sayAsCut_51 rfl ?_
        obtain ⟨g345, hw346⟩ := hS263.ws (wsAt_ln hi (w := 2) (show 2 < 3 by decide))
        obtain ⟨g348, hw349⟩ := hS263.ws (wsAt_ln hl (w := 2) (show 2 < 3 by decide))
        obtain ⟨g351, hw352⟩ := hS263.ws (wsAt_ln hj (w := 2) (show 2 < 3 by decide))
        refine cl_X3_60 rfl rfl dX3_sayAsCut_53 (show _ ∧ _ from ⟨(wsAt_ln hi (w := 2) (show 2 < 3 by decide)).2.2.1, Nat.lt_of_succ_lt (wsAt_ln hi (w := 2) (show 2 < 3 by decide)).2.2.2⟩).1 (show _ ∧ _ from ⟨(wsAt_ln hi (w := 2) (show 2 < 3 by decide)).2.2.1, Nat.lt_of_succ_lt (wsAt_ln hi (w := 2) (show 2 < 3 by decide)).2.2.2⟩).2 hw346.2.2.1 (Nat.le_of_ble_eq_true rfl) ((s_X10_choose hw346 hw349 hw352 (by omega) (by omega)).sh hS263) ?_
        rintro _ h353 _ ⟨⟨rfl, -, rfl⟩, -, hS354, -⟩
        refine r_goto (pc' := 107) rfl dX3_sayAsCut_56 ?_
        refine r_iinc (y := 3) (ls' := [some (.ref (100 + 8 * i)), some (.ref (100 + 8 * j)), some (.ref (100 + 8 * l)), some (.int o), some (.int 3), some (.ref (102 + 8 * j + 2 * 2)), some (.ref (102 + 8 * l + 2 * 2))]) rfl dX3_sayAsCut_107 rfl (by decide) (Nat.le_of_ble_eq_true rfl) rfl ?_
        refine r_goto (pc' := 3) rfl dX3_sayAsCut_110 ?_
        refine r_iload rfl dX3_sayAsCut_3 rfl ?_
        refine r_iconst (v := 3) rfl dX3_sayAsCut_5 (by decide) ?_
        refine r_icmp_ge (tgt := 113) rfl rfl dX3_sayAsCut_6 (fun _ => ?_) (fun c => absurd c (by decide))
        exact r_ret dX3_sayAsCut_113 (rt_v rfl) rfl
  · refine r_aload_n rfl dX3_sayAsCut_80 rfl ?_
    obtain ⟨y357, y358, y359, y360, y361, y362, f356⟩ := hS82.ln hi
    refine r_getv 0 rfl dX3_sayAsCut_81 (show 2 ≤ 100 + 8 * i ∧ 100 + 8 * i < 434 by omega) f356 fl_X3_11 rfl ?_
    refine r_iload rfl dX3_sayAsCut_84 rfl ?_
    refine r_aald (jn := 0) (v := .ref (102 + 8 * i + 2 * 0)) rfl dX3_sayAsCut_86 (show 2 ≤ 101 + 8 * i ∧ 101 + 8 * i < 434 by omega).1 (show 2 ≤ 101 + 8 * i ∧ 101 + 8 * i < 434 by omega).2 (hS82.say hi) (by decide) (by unfold vp_in; decide) rfl (by show va_rf (if _ < _ then _ else _) = _; rw [if_pos (show 0 < 3 by decide)]; rfl) ?_
    refine r_aload rfl dX3_sayAsCut_87 rfl ?_
    obtain ⟨g365, hw366⟩ := hS82.ws (wsAt_ln hi (w := 0) (show 0 < 3 by decide))
    obtain ⟨g368, hw369⟩ := hS82.ws (wsAt_ln hl (w := 0) (show 0 < 3 by decide))
    refine cl_X3_72 rfl rfl dX3_sayAsCut_89 (show _ ∧ _ from ⟨(wsAt_ln hi (w := 0) (show 0 < 3 by decide)).2.2.1, Nat.lt_of_succ_lt (wsAt_ln hi (w := 0) (show 0 < 3 by decide)).2.2.2⟩).1 (show _ ∧ _ from ⟨(wsAt_ln hi (w := 0) (show 0 < 3 by decide)).2.2.1, Nat.lt_of_succ_lt (wsAt_ln hi (w := 0) (show 0 < 3 by decide)).2.2.2⟩).2 hw366.2.2.1 (Nat.le_of_ble_eq_true rfl) ((s_X10_join hw366 hw369 (by omega)).sh hS82) ?_
    rintro _ h370 _ ⟨⟨rfl, -, rfl⟩, -, hS371, -⟩
    refine r_goto (pc' := 107) rfl dX3_sayAsCut_92 ?_
    refine r_iinc (y := 1) (ls' := [some (.ref (100 + 8 * i)), some (.ref (100 + 8 * j)), some (.ref (100 + 8 * l)), some (.int o), some (.int 1), some (.ref (102 + 8 * j + 2 * 0)), some (.ref (102 + 8 * l + 2 * 0))]) rfl dX3_sayAsCut_107 rfl (by decide) (Nat.le_of_ble_eq_true rfl) rfl ?_
    refine r_goto (pc' := 3) rfl dX3_sayAsCut_110 ?_
    refine r_iload rfl dX3_sayAsCut_3 rfl ?_
    refine r_iconst (v := 3) rfl dX3_sayAsCut_5 (by decide) ?_
    refine r_icmp_ge (tgt := 113) rfl rfl dX3_sayAsCut_6 (fun c => absurd c (by decide)) (fun _ => ?_)
    refine r_aload_n rfl dX3_sayAsCut_9 rfl ?_
    obtain ⟨y374, y375, y376, y377, y378, y379, f373⟩ := hS371.ln hj
    refine r_getv 0 rfl dX3_sayAsCut_10 (show 2 ≤ 100 + 8 * j ∧ 100 + 8 * j < 434 by omega) f373 fl_X3_11 rfl ?_
    refine r_iload rfl dX3_sayAsCut_13 rfl ?_
    refine r_aald (jn := 1) (v := .ref (102 + 8 * j + 2 * 1)) rfl dX3_sayAsCut_15 (show 2 ≤ 101 + 8 * j ∧ 101 + 8 * j < 434 by omega).1 (show 2 ≤ 101 + 8 * j ∧ 101 + 8 * j < 434 by omega).2 (hS371.say hj) (by decide) (by unfold vp_in; decide) rfl (by show va_rf (if _ < _ then _ else _) = _; rw [if_pos (show 1 < 3 by decide)]; rfl) ?_
    refine r_astore (ls' := [some (.ref (100 + 8 * i)), some (.ref (100 + 8 * j)), some (.ref (100 + 8 * l)), some (.int o), some (.int 1), some (.ref (102 + 8 * j + 2 * 1)), some (.ref (102 + 8 * l + 2 * 0))]) rfl dX3_sayAsCut_16 (Nat.le_of_ble_eq_true rfl) rfl ?_
    refine r_aload_n rfl dX3_sayAsCut_18 rfl ?_
    obtain ⟨y382, y383, y384, y385, y386, y387, f381⟩ := hS371.ln hl
    refine r_getv 0 rfl dX3_sayAsCut_19 (show 2 ≤ 100 + 8 * l ∧ 100 + 8 * l < 434 by omega) f381 fl_X3_11 rfl ?_
    refine r_iload rfl dX3_sayAsCut_22 rfl ?_
    refine r_aald (jn := 1) (v := .ref (102 + 8 * l + 2 * 1)) rfl dX3_sayAsCut_24 (show 2 ≤ 101 + 8 * l ∧ 101 + 8 * l < 434 by omega).1 (show 2 ≤ 101 + 8 * l ∧ 101 + 8 * l < 434 by omega).2 (hS371.say hl) (by decide) (by unfold vp_in; decide) rfl (by show va_rf (if _ < _ then _ else _) = _; rw [if_pos (show 1 < 3 by decide)]; rfl) ?_
    refine r_astore (ls' := [some (.ref (100 + 8 * i)), some (.ref (100 + 8 * j)), some (.ref (100 + 8 * l)), some (.int o), some (.int 1), some (.ref (102 + 8 * j + 2 * 1)), some (.ref (102 + 8 * l + 2 * 1))]) rfl dX3_sayAsCut_25 (Nat.le_of_ble_eq_true rfl) rfl ?_
    refine r_iload rfl dX3_sayAsCut_27 rfl ?_
    refine r_iconst (v := 2) rfl dX3_sayAsCut_29 (by decide) ?_
    refine r_icmp_ne (tgt := 59) rfl rfl dX3_sayAsCut_30 (fun _ => ?_) (fun c => absurd c (by decide))
    refine r_aload_n rfl dX3_sayAsCut_59 rfl ?_
    obtain ⟨y390, y391, y392, y393, y394, y395, f389⟩ := hS371.ln hi
    refine r_getv 0 rfl dX3_sayAsCut_60 (show 2 ≤ 100 + 8 * i ∧ 100 + 8 * i < 434 by omega) f389 fl_X3_11 rfl ?_
    refine r_iload rfl dX3_sayAsCut_63 rfl ?_
    refine r_aald (jn := 1) (v := .ref (102 + 8 * i + 2 * 1)) rfl dX3_sayAsCut_65 (show 2 ≤ 101 + 8 * i ∧ 101 + 8 * i < 434 by omega).1 (show 2 ≤ 101 + 8 * i ∧ 101 + 8 * i < 434 by omega).2 (hS371.say hi) (by decide) (by unfold vp_in; decide) rfl (by show va_rf (if _ < _ then _ else _) = _; rw [if_pos (show 1 < 3 by decide)]; rfl) ?_
    refine r_aload rfl dX3_sayAsCut_66 rfl ?_
    obtain ⟨g398, hw399⟩ := hS371.ws (wsAt_ln hi (w := 1) (show 1 < 3 by decide))
    obtain ⟨g401, hw402⟩ := hS371.ws (wsAt_ln hj (w := 1) (show 1 < 3 by decide))
    refine cl_X3_64 rfl rfl dX3_sayAsCut_68 (show _ ∧ _ from ⟨(wsAt_ln hi (w := 1) (show 1 < 3 by decide)).2.2.1, Nat.lt_of_succ_lt (wsAt_ln hi (w := 1) (show 1 < 3 by decide)).2.2.2⟩).1 (show _ ∧ _ from ⟨(wsAt_ln hi (w := 1) (show 1 < 3 by decide)).2.2.1, Nat.lt_of_succ_lt (wsAt_ln hi (w := 1) (show 1 < 3 by decide)).2.2.2⟩).2 hw399.2.2.1 (Nat.le_of_ble_eq_true rfl) ((s_X10_become hw399 hw402 (by omega)).sh hS371) ?_
    rintro _ h403 _ ⟨⟨rfl, -, rfl⟩, -, hS404, -⟩
    refine r_iload rfl dX3_sayAsCut_71 rfl ?_
    refine r_iload_n rfl dX3_sayAsCut_73 rfl ?_
    refine cl_X3_68 rfl rfl dX3_sayAsCut_74 (Nat.le_of_ble_eq_true rfl) s_X3_joins ?_
    rintro _ h406 _ ⟨rfl, e407, rfl⟩
    replace e407 := e407.symm
    subst e407
    refine r_if_eq (tgt := 95) rfl rfl dX3_sayAsCut_77 (fun c408 => ?_) (fun c408 => ?_)
    · refine r_aload_n rfl dX3_sayAsCut_95 rfl ?_
      obtain ⟨y410, y411, y412, y413, y414, y415, f409⟩ := hS404.ln hi
      refine r_getv 0 rfl dX3_sayAsCut_96 (show 2 ≤ 100 + 8 * i ∧ 100 + 8 * i < 434 by omega) f409 fl_X3_11 rfl ?_
      refine r_iload rfl dX3_sayAsCut_99 rfl ?_
      refine r_aald (jn := 1) (v := .ref (102 + 8 * i + 2 * 1)) rfl dX3_sayAsCut_101 (show 2 ≤ 101 + 8 * i ∧ 101 + 8 * i < 434 by omega).1 (show 2 ≤ 101 + 8 * i ∧ 101 + 8 * i < 434 by omega).2 (hS404.say hi) (by decide) (by unfold vp_in; decide) rfl (by show va_rf (if _ < _ then _ else _) = _; rw [if_pos (show 1 < 3 by decide)]; rfl) ?_
      refine r_aload rfl dX3_sayAsCut_102 rfl ?_
      obtain ⟨g418, hw419⟩ := hS404.ws (wsAt_ln hi (w := 1) (show 1 < 3 by decide))
      obtain ⟨g421, hw422⟩ := hS404.ws (wsAt_ln hl (w := 1) (show 1 < 3 by decide))
      refine cl_X3_75 rfl rfl dX3_sayAsCut_104 (show _ ∧ _ from ⟨(wsAt_ln hi (w := 1) (show 1 < 3 by decide)).2.2.1, Nat.lt_of_succ_lt (wsAt_ln hi (w := 1) (show 1 < 3 by decide)).2.2.2⟩).1 (show _ ∧ _ from ⟨(wsAt_ln hi (w := 1) (show 1 < 3 by decide)).2.2.1, Nat.lt_of_succ_lt (wsAt_ln hi (w := 1) (show 1 < 3 by decide)).2.2.2⟩).2 hw419.2.2.1 (Nat.le_of_ble_eq_true rfl) ((s_X10_meet hw419 hw422 (by omega)).sh hS404) ?_
      rintro _ h423 _ ⟨⟨rfl, -, rfl⟩, -, hS424, -⟩
      refine r_iinc (y := 2) (ls' := [some (.ref (100 + 8 * i)), some (.ref (100 + 8 * j)), some (.ref (100 + 8 * l)), some (.int o), some (.int 2), some (.ref (102 + 8 * j + 2 * 1)), some (.ref (102 + 8 * l + 2 * 1))]) rfl dX3_sayAsCut_107 rfl (by decide) (Nat.le_of_ble_eq_true rfl) rfl ?_
      refine r_goto (pc' := 3) rfl dX3_sayAsCut_110 ?_
      refine r_iload rfl dX3_sayAsCut_3 rfl ?_
      refine r_iconst (v := 3) rfl dX3_sayAsCut_5 (by decide) ?_
      refine r_icmp_ge (tgt := 113) rfl rfl dX3_sayAsCut_6 (fun c => absurd c (by decide)) (fun _ => ?_)
      refine r_aload_n rfl dX3_sayAsCut_9 rfl ?_
      obtain ⟨y427, y428, y429, y430, y431, y432, f426⟩ := hS424.ln hj
      refine r_getv 0 rfl dX3_sayAsCut_10 (show 2 ≤ 100 + 8 * j ∧ 100 + 8 * j < 434 by omega) f426 fl_X3_11 rfl ?_
      refine r_iload rfl dX3_sayAsCut_13 rfl ?_
      refine r_aald (jn := 2) (v := .ref (102 + 8 * j + 2 * 2)) rfl dX3_sayAsCut_15 (show 2 ≤ 101 + 8 * j ∧ 101 + 8 * j < 434 by omega).1 (show 2 ≤ 101 + 8 * j ∧ 101 + 8 * j < 434 by omega).2 (hS424.say hj) (by decide) (by unfold vp_in; decide) rfl (by show va_rf (if _ < _ then _ else _) = _; rw [if_pos (show 2 < 3 by decide)]; rfl) ?_
      refine r_astore (ls' := [some (.ref (100 + 8 * i)), some (.ref (100 + 8 * j)), some (.ref (100 + 8 * l)), some (.int o), some (.int 2), some (.ref (102 + 8 * j + 2 * 2)), some (.ref (102 + 8 * l + 2 * 1))]) rfl dX3_sayAsCut_16 (Nat.le_of_ble_eq_true rfl) rfl ?_
      refine r_aload_n rfl dX3_sayAsCut_18 rfl ?_
      obtain ⟨y435, y436, y437, y438, y439, y440, f434⟩ := hS424.ln hl
      refine r_getv 0 rfl dX3_sayAsCut_19 (show 2 ≤ 100 + 8 * l ∧ 100 + 8 * l < 434 by omega) f434 fl_X3_11 rfl ?_
      refine r_iload rfl dX3_sayAsCut_22 rfl ?_
      refine r_aald (jn := 2) (v := .ref (102 + 8 * l + 2 * 2)) rfl dX3_sayAsCut_24 (show 2 ≤ 101 + 8 * l ∧ 101 + 8 * l < 434 by omega).1 (show 2 ≤ 101 + 8 * l ∧ 101 + 8 * l < 434 by omega).2 (hS424.say hl) (by decide) (by unfold vp_in; decide) rfl (by show va_rf (if _ < _ then _ else _) = _; rw [if_pos (show 2 < 3 by decide)]; rfl) ?_
      refine r_astore (ls' := [some (.ref (100 + 8 * i)), some (.ref (100 + 8 * j)), some (.ref (100 + 8 * l)), some (.int o), some (.int 2), some (.ref (102 + 8 * j + 2 * 2)), some (.ref (102 + 8 * l + 2 * 2))]) rfl dX3_sayAsCut_25 (Nat.le_of_ble_eq_true rfl) rfl ?_
      refine r_iload rfl dX3_sayAsCut_27 rfl ?_
      refine r_iconst (v := 2) rfl dX3_sayAsCut_29 (by decide) ?_
      refine r_icmp_ne (tgt := 59) rfl rfl dX3_sayAsCut_30 (fun c => absurd c (by decide)) (fun _ => ?_)
      refine r_iload_n rfl dX3_sayAsCut_33 rfl ?_
      refine r_iconst (v := 3) rfl dX3_sayAsCut_34 (by decide) ?_
      refine r_icmp_ne (tgt := 59) rfl rfl dX3_sayAsCut_35 (fun c442 => ?_) (fun c442 => ?_)
      · refine r_aload_n rfl dX3_sayAsCut_59 rfl ?_
        obtain ⟨y444, y445, y446, y447, y448, y449, f443⟩ := hS424.ln hi
        refine r_getv 0 rfl dX3_sayAsCut_60 (show 2 ≤ 100 + 8 * i ∧ 100 + 8 * i < 434 by omega) f443 fl_X3_11 rfl ?_
        refine r_iload rfl dX3_sayAsCut_63 rfl ?_
        refine r_aald (jn := 2) (v := .ref (102 + 8 * i + 2 * 2)) rfl dX3_sayAsCut_65 (show 2 ≤ 101 + 8 * i ∧ 101 + 8 * i < 434 by omega).1 (show 2 ≤ 101 + 8 * i ∧ 101 + 8 * i < 434 by omega).2 (hS424.say hi) (by decide) (by unfold vp_in; decide) rfl (by show va_rf (if _ < _ then _ else _) = _; rw [if_pos (show 2 < 3 by decide)]; rfl) ?_
        refine r_aload rfl dX3_sayAsCut_66 rfl ?_
        obtain ⟨g452, hw453⟩ := hS424.ws (wsAt_ln hi (w := 2) (show 2 < 3 by decide))
        obtain ⟨g455, hw456⟩ := hS424.ws (wsAt_ln hj (w := 2) (show 2 < 3 by decide))
        refine cl_X3_64 rfl rfl dX3_sayAsCut_68 (show _ ∧ _ from ⟨(wsAt_ln hi (w := 2) (show 2 < 3 by decide)).2.2.1, Nat.lt_of_succ_lt (wsAt_ln hi (w := 2) (show 2 < 3 by decide)).2.2.2⟩).1 (show _ ∧ _ from ⟨(wsAt_ln hi (w := 2) (show 2 < 3 by decide)).2.2.1, Nat.lt_of_succ_lt (wsAt_ln hi (w := 2) (show 2 < 3 by decide)).2.2.2⟩).2 hw453.2.2.1 (Nat.le_of_ble_eq_true rfl) ((s_X10_become hw453 hw456 (by omega)).sh hS424) ?_
        rintro _ h457 _ ⟨⟨rfl, -, rfl⟩, -, hS458, -⟩
        refine r_iload rfl dX3_sayAsCut_71 rfl ?_
        refine r_iload_n rfl dX3_sayAsCut_73 rfl ?_
        refine cl_X3_68 rfl rfl dX3_sayAsCut_74 (Nat.le_of_ble_eq_true rfl) s_X3_joins ?_
        rintro _ h460 _ ⟨rfl, e461, rfl⟩
        replace e461 := e461.symm
        subst e461
        refine r_if_eq (tgt := 95) rfl rfl dX3_sayAsCut_77 (fun c462 => ?_) (fun c462 => ?_)
        · refine r_aload_n rfl dX3_sayAsCut_95 rfl ?_
          obtain ⟨y464, y465, y466, y467, y468, y469, f463⟩ := hS458.ln hi
          refine r_getv 0 rfl dX3_sayAsCut_96 (show 2 ≤ 100 + 8 * i ∧ 100 + 8 * i < 434 by omega) f463 fl_X3_11 rfl ?_
          refine r_iload rfl dX3_sayAsCut_99 rfl ?_
          refine r_aald (jn := 2) (v := .ref (102 + 8 * i + 2 * 2)) rfl dX3_sayAsCut_101 (show 2 ≤ 101 + 8 * i ∧ 101 + 8 * i < 434 by omega).1 (show 2 ≤ 101 + 8 * i ∧ 101 + 8 * i < 434 by omega).2 (hS458.say hi) (by decide) (by unfold vp_in; decide) rfl (by show va_rf (if _ < _ then _ else _) = _; rw [if_pos (show 2 < 3 by decide)]; rfl) ?_
          refine r_aload rfl dX3_sayAsCut_102 rfl ?_
          obtain ⟨g472, hw473⟩ := hS458.ws (wsAt_ln hi (w := 2) (show 2 < 3 by decide))
          obtain ⟨g475, hw476⟩ := hS458.ws (wsAt_ln hl (w := 2) (show 2 < 3 by decide))
          refine cl_X3_75 rfl rfl dX3_sayAsCut_104 (show _ ∧ _ from ⟨(wsAt_ln hi (w := 2) (show 2 < 3 by decide)).2.2.1, Nat.lt_of_succ_lt (wsAt_ln hi (w := 2) (show 2 < 3 by decide)).2.2.2⟩).1 (show _ ∧ _ from ⟨(wsAt_ln hi (w := 2) (show 2 < 3 by decide)).2.2.1, Nat.lt_of_succ_lt (wsAt_ln hi (w := 2) (show 2 < 3 by decide)).2.2.2⟩).2 hw473.2.2.1 (Nat.le_of_ble_eq_true rfl) ((s_X10_meet hw473 hw476 (by omega)).sh hS458) ?_
          rintro _ h477 _ ⟨⟨rfl, -, rfl⟩, -, hS478, -⟩
          refine r_iinc (y := 3) (ls' := [some (.ref (100 + 8 * i)), some (.ref (100 + 8 * j)), some (.ref (100 + 8 * l)), some (.int o), some (.int 3), some (.ref (102 + 8 * j + 2 * 2)), some (.ref (102 + 8 * l + 2 * 2))]) rfl dX3_sayAsCut_107 rfl (by decide) (Nat.le_of_ble_eq_true rfl) rfl ?_
          refine r_goto (pc' := 3) rfl dX3_sayAsCut_110 ?_
          refine r_iload rfl dX3_sayAsCut_3 rfl ?_
          refine r_iconst (v := 3) rfl dX3_sayAsCut_5 (by decide) ?_
          refine r_icmp_ge (tgt := 113) rfl rfl dX3_sayAsCut_6 (fun _ => ?_) (fun c => absurd c (by decide))
          exact r_ret dX3_sayAsCut_113 (rt_v rfl) rfl
        · refine r_aload_n rfl dX3_sayAsCut_80 rfl ?_
          obtain ⟨y481, y482, y483, y484, y485, y486, f480⟩ := hS458.ln hi
          refine r_getv 0 rfl dX3_sayAsCut_81 (show 2 ≤ 100 + 8 * i ∧ 100 + 8 * i < 434 by omega) f480 fl_X3_11 rfl ?_
          refine r_iload rfl dX3_sayAsCut_84 rfl ?_
          refine r_aald (jn := 2) (v := .ref (102 + 8 * i + 2 * 2)) rfl dX3_sayAsCut_86 (show 2 ≤ 101 + 8 * i ∧ 101 + 8 * i < 434 by omega).1 (show 2 ≤ 101 + 8 * i ∧ 101 + 8 * i < 434 by omega).2 (hS458.say hi) (by decide) (by unfold vp_in; decide) rfl (by show va_rf (if _ < _ then _ else _) = _; rw [if_pos (show 2 < 3 by decide)]; rfl) ?_
          refine r_aload rfl dX3_sayAsCut_87 rfl ?_
          obtain ⟨g489, hw490⟩ := hS458.ws (wsAt_ln hi (w := 2) (show 2 < 3 by decide))
          obtain ⟨g492, hw493⟩ := hS458.ws (wsAt_ln hl (w := 2) (show 2 < 3 by decide))
          refine cl_X3_72 rfl rfl dX3_sayAsCut_89 (show _ ∧ _ from ⟨(wsAt_ln hi (w := 2) (show 2 < 3 by decide)).2.2.1, Nat.lt_of_succ_lt (wsAt_ln hi (w := 2) (show 2 < 3 by decide)).2.2.2⟩).1 (show _ ∧ _ from ⟨(wsAt_ln hi (w := 2) (show 2 < 3 by decide)).2.2.1, Nat.lt_of_succ_lt (wsAt_ln hi (w := 2) (show 2 < 3 by decide)).2.2.2⟩).2 hw490.2.2.1 (Nat.le_of_ble_eq_true rfl) ((s_X10_join hw490 hw493 (by omega)).sh hS458) ?_
          rintro _ h494 _ ⟨⟨rfl, -, rfl⟩, -, hS495, -⟩
          refine r_goto (pc' := 107) rfl dX3_sayAsCut_92 ?_
          refine r_iinc (y := 3) (ls' := [some (.ref (100 + 8 * i)), some (.ref (100 + 8 * j)), some (.ref (100 + 8 * l)), some (.int o), some (.int 3), some (.ref (102 + 8 * j + 2 * 2)), some (.ref (102 + 8 * l + 2 * 2))]) rfl dX3_sayAsCut_107 rfl (by decide) (Nat.le_of_ble_eq_true rfl) rfl ?_
          refine r_goto (pc' := 3) rfl dX3_sayAsCut_110 ?_
          refine r_iload rfl dX3_sayAsCut_3 rfl ?_
          refine r_iconst (v := 3) rfl dX3_sayAsCut_5 (by decide) ?_
          refine r_icmp_ge (tgt := 113) rfl rfl dX3_sayAsCut_6 (fun _ => ?_) (fun c => absurd c (by decide))
          exact r_ret dX3_sayAsCut_113 (rt_v rfl) rfl
      · refine r_aload_n rfl dX3_sayAsCut_38 rfl ?_
        obtain ⟨y498, y499, y500, y501, y502, y503, f497⟩ := hS424.ln hi
        refine r_getv 0 rfl dX3_sayAsCut_39 (show 2 ≤ 100 + 8 * i ∧ 100 + 8 * i < 434 by omega) f497 fl_X3_11 rfl ?_
        refine r_iload rfl dX3_sayAsCut_42 rfl ?_
        refine r_aald (jn := 2) (v := .ref (102 + 8 * i + 2 * 2)) rfl dX3_sayAsCut_44 (show 2 ≤ 101 + 8 * i ∧ 101 + 8 * i < 434 by omega).1 (show 2 ≤ 101 + 8 * i ∧ 101 + 8 * i < 434 by omega).2 (hS424.say hi) (by decide) (by unfold vp_in; decide) rfl (by show va_rf (if _ < _ then _ else _) = _; rw [if_pos (show 2 < 3 by decide)]; rfl) ?_
        refine r_aload_n rfl dX3_sayAsCut_45 rfl ?_
        refine r_getv 6 rfl dX3_sayAsCut_46 (show 2 ≤ 100 + 8 * i ∧ 100 + 8 * i < 434 by omega) f497 fl_X3_24 rfl ?_
        refine r_aload rfl dX3_sayAsCut_49 rfl ?_
        refine r_aload rfl dX3_sayAsCut_51 rfl ?_
        obtain ⟨g506, hw507⟩ := hS424.ws (wsAt_ln hi (w := 2) (show 2 < 3 by decide))
        obtain ⟨g509, hw510⟩ := hS424.ws (wsAt_ln hl (w := 2) (show 2 < 3 by decide))
        obtain ⟨g512, hw513⟩ := hS424.ws (wsAt_ln hj (w := 2) (show 2 < 3 by decide))
        refine cl_X3_60 rfl rfl dX3_sayAsCut_53 (show _ ∧ _ from ⟨(wsAt_ln hi (w := 2) (show 2 < 3 by decide)).2.2.1, Nat.lt_of_succ_lt (wsAt_ln hi (w := 2) (show 2 < 3 by decide)).2.2.2⟩).1 (show _ ∧ _ from ⟨(wsAt_ln hi (w := 2) (show 2 < 3 by decide)).2.2.1, Nat.lt_of_succ_lt (wsAt_ln hi (w := 2) (show 2 < 3 by decide)).2.2.2⟩).2 hw507.2.2.1 (Nat.le_of_ble_eq_true rfl) ((s_X10_choose hw507 hw510 hw513 (by omega) (by omega)).sh hS424) ?_
        rintro _ h514 _ ⟨⟨rfl, -, rfl⟩, -, hS515, -⟩
        refine r_goto (pc' := 107) rfl dX3_sayAsCut_56 ?_
        refine r_iinc (y := 3) (ls' := [some (.ref (100 + 8 * i)), some (.ref (100 + 8 * j)), some (.ref (100 + 8 * l)), some (.int o), some (.int 3), some (.ref (102 + 8 * j + 2 * 2)), some (.ref (102 + 8 * l + 2 * 2))]) rfl dX3_sayAsCut_107 rfl (by decide) (Nat.le_of_ble_eq_true rfl) rfl ?_
        refine r_goto (pc' := 3) rfl dX3_sayAsCut_110 ?_
        refine r_iload rfl dX3_sayAsCut_3 rfl ?_
        refine r_iconst (v := 3) rfl dX3_sayAsCut_5 (by decide) ?_
        refine r_icmp_ge (tgt := 113) rfl rfl dX3_sayAsCut_6 (fun _ => ?_) (fun c => absurd c (by decide))
        exact r_ret dX3_sayAsCut_113 (rt_v rfl) rfl
    · refine r_aload_n rfl dX3_sayAsCut_80 rfl ?_
      obtain ⟨y518, y519, y520, y521, y522, y523, f517⟩ := hS404.ln hi
      refine r_getv 0 rfl dX3_sayAsCut_81 (show 2 ≤ 100 + 8 * i ∧ 100 + 8 * i < 434 by omega) f517 fl_X3_11 rfl ?_
      refine r_iload rfl dX3_sayAsCut_84 rfl ?_
      refine r_aald (jn := 1) (v := .ref (102 + 8 * i + 2 * 1)) rfl dX3_sayAsCut_86 (show 2 ≤ 101 + 8 * i ∧ 101 + 8 * i < 434 by omega).1 (show 2 ≤ 101 + 8 * i ∧ 101 + 8 * i < 434 by omega).2 (hS404.say hi) (by decide) (by unfold vp_in; decide) rfl (by show va_rf (if _ < _ then _ else _) = _; rw [if_pos (show 1 < 3 by decide)]; rfl) ?_
      refine r_aload rfl dX3_sayAsCut_87 rfl ?_
      obtain ⟨g526, hw527⟩ := hS404.ws (wsAt_ln hi (w := 1) (show 1 < 3 by decide))
      obtain ⟨g529, hw530⟩ := hS404.ws (wsAt_ln hl (w := 1) (show 1 < 3 by decide))
      refine cl_X3_72 rfl rfl dX3_sayAsCut_89 (show _ ∧ _ from ⟨(wsAt_ln hi (w := 1) (show 1 < 3 by decide)).2.2.1, Nat.lt_of_succ_lt (wsAt_ln hi (w := 1) (show 1 < 3 by decide)).2.2.2⟩).1 (show _ ∧ _ from ⟨(wsAt_ln hi (w := 1) (show 1 < 3 by decide)).2.2.1, Nat.lt_of_succ_lt (wsAt_ln hi (w := 1) (show 1 < 3 by decide)).2.2.2⟩).2 hw527.2.2.1 (Nat.le_of_ble_eq_true rfl) ((s_X10_join hw527 hw530 (by omega)).sh hS404) ?_
      rintro _ h531 _ ⟨⟨rfl, -, rfl⟩, -, hS532, -⟩
      refine r_goto (pc' := 107) rfl dX3_sayAsCut_92 ?_
      refine r_iinc (y := 2) (ls' := [some (.ref (100 + 8 * i)), some (.ref (100 + 8 * j)), some (.ref (100 + 8 * l)), some (.int o), some (.int 2), some (.ref (102 + 8 * j + 2 * 1)), some (.ref (102 + 8 * l + 2 * 1))]) rfl dX3_sayAsCut_107 rfl (by decide) (Nat.le_of_ble_eq_true rfl) rfl ?_
      refine r_goto (pc' := 3) rfl dX3_sayAsCut_110 ?_
      refine r_iload rfl dX3_sayAsCut_3 rfl ?_
      refine r_iconst (v := 3) rfl dX3_sayAsCut_5 (by decide) ?_
      refine r_icmp_ge (tgt := 113) rfl rfl dX3_sayAsCut_6 (fun c => absurd c (by decide)) (fun _ => ?_)
      refine r_aload_n rfl dX3_sayAsCut_9 rfl ?_
      obtain ⟨y535, y536, y537, y538, y539, y540, f534⟩ := hS532.ln hj
      refine r_getv 0 rfl dX3_sayAsCut_10 (show 2 ≤ 100 + 8 * j ∧ 100 + 8 * j < 434 by omega) f534 fl_X3_11 rfl ?_
      refine r_iload rfl dX3_sayAsCut_13 rfl ?_
      refine r_aald (jn := 2) (v := .ref (102 + 8 * j + 2 * 2)) rfl dX3_sayAsCut_15 (show 2 ≤ 101 + 8 * j ∧ 101 + 8 * j < 434 by omega).1 (show 2 ≤ 101 + 8 * j ∧ 101 + 8 * j < 434 by omega).2 (hS532.say hj) (by decide) (by unfold vp_in; decide) rfl (by show va_rf (if _ < _ then _ else _) = _; rw [if_pos (show 2 < 3 by decide)]; rfl) ?_
      refine r_astore (ls' := [some (.ref (100 + 8 * i)), some (.ref (100 + 8 * j)), some (.ref (100 + 8 * l)), some (.int o), some (.int 2), some (.ref (102 + 8 * j + 2 * 2)), some (.ref (102 + 8 * l + 2 * 1))]) rfl dX3_sayAsCut_16 (Nat.le_of_ble_eq_true rfl) rfl ?_
      refine r_aload_n rfl dX3_sayAsCut_18 rfl ?_
      obtain ⟨y543, y544, y545, y546, y547, y548, f542⟩ := hS532.ln hl
      refine r_getv 0 rfl dX3_sayAsCut_19 (show 2 ≤ 100 + 8 * l ∧ 100 + 8 * l < 434 by omega) f542 fl_X3_11 rfl ?_
      refine r_iload rfl dX3_sayAsCut_22 rfl ?_
      refine r_aald (jn := 2) (v := .ref (102 + 8 * l + 2 * 2)) rfl dX3_sayAsCut_24 (show 2 ≤ 101 + 8 * l ∧ 101 + 8 * l < 434 by omega).1 (show 2 ≤ 101 + 8 * l ∧ 101 + 8 * l < 434 by omega).2 (hS532.say hl) (by decide) (by unfold vp_in; decide) rfl (by show va_rf (if _ < _ then _ else _) = _; rw [if_pos (show 2 < 3 by decide)]; rfl) ?_
      refine r_astore (ls' := [some (.ref (100 + 8 * i)), some (.ref (100 + 8 * j)), some (.ref (100 + 8 * l)), some (.int o), some (.int 2), some (.ref (102 + 8 * j + 2 * 2)), some (.ref (102 + 8 * l + 2 * 2))]) rfl dX3_sayAsCut_25 (Nat.le_of_ble_eq_true rfl) rfl ?_
      refine r_iload rfl dX3_sayAsCut_27 rfl ?_
      refine r_iconst (v := 2) rfl dX3_sayAsCut_29 (by decide) ?_
      refine r_icmp_ne (tgt := 59) rfl rfl dX3_sayAsCut_30 (fun c => absurd c (by decide)) (fun _ => ?_)
      refine r_iload_n rfl dX3_sayAsCut_33 rfl ?_
      refine r_iconst (v := 3) rfl dX3_sayAsCut_34 (by decide) ?_
      refine r_icmp_ne (tgt := 59) rfl rfl dX3_sayAsCut_35 (fun c550 => ?_) (fun c550 => ?_)
      · refine r_aload_n rfl dX3_sayAsCut_59 rfl ?_
        obtain ⟨y552, y553, y554, y555, y556, y557, f551⟩ := hS532.ln hi
        refine r_getv 0 rfl dX3_sayAsCut_60 (show 2 ≤ 100 + 8 * i ∧ 100 + 8 * i < 434 by omega) f551 fl_X3_11 rfl ?_
        refine r_iload rfl dX3_sayAsCut_63 rfl ?_
        refine r_aald (jn := 2) (v := .ref (102 + 8 * i + 2 * 2)) rfl dX3_sayAsCut_65 (show 2 ≤ 101 + 8 * i ∧ 101 + 8 * i < 434 by omega).1 (show 2 ≤ 101 + 8 * i ∧ 101 + 8 * i < 434 by omega).2 (hS532.say hi) (by decide) (by unfold vp_in; decide) rfl (by show va_rf (if _ < _ then _ else _) = _; rw [if_pos (show 2 < 3 by decide)]; rfl) ?_
        refine r_aload rfl dX3_sayAsCut_66 rfl ?_
        obtain ⟨g560, hw561⟩ := hS532.ws (wsAt_ln hi (w := 2) (show 2 < 3 by decide))
        obtain ⟨g563, hw564⟩ := hS532.ws (wsAt_ln hj (w := 2) (show 2 < 3 by decide))
        refine cl_X3_64 rfl rfl dX3_sayAsCut_68 (show _ ∧ _ from ⟨(wsAt_ln hi (w := 2) (show 2 < 3 by decide)).2.2.1, Nat.lt_of_succ_lt (wsAt_ln hi (w := 2) (show 2 < 3 by decide)).2.2.2⟩).1 (show _ ∧ _ from ⟨(wsAt_ln hi (w := 2) (show 2 < 3 by decide)).2.2.1, Nat.lt_of_succ_lt (wsAt_ln hi (w := 2) (show 2 < 3 by decide)).2.2.2⟩).2 hw561.2.2.1 (Nat.le_of_ble_eq_true rfl) ((s_X10_become hw561 hw564 (by omega)).sh hS532) ?_
        rintro _ h565 _ ⟨⟨rfl, -, rfl⟩, -, hS566, -⟩
        refine r_iload rfl dX3_sayAsCut_71 rfl ?_
        refine r_iload_n rfl dX3_sayAsCut_73 rfl ?_
        refine cl_X3_68 rfl rfl dX3_sayAsCut_74 (Nat.le_of_ble_eq_true rfl) s_X3_joins ?_
        rintro _ h568 _ ⟨rfl, e569, rfl⟩
        replace e569 := e569.symm
        subst e569
        refine r_if_eq (tgt := 95) rfl rfl dX3_sayAsCut_77 (fun c570 => ?_) (fun c570 => ?_)
        · refine r_aload_n rfl dX3_sayAsCut_95 rfl ?_
          obtain ⟨y572, y573, y574, y575, y576, y577, f571⟩ := hS566.ln hi
          refine r_getv 0 rfl dX3_sayAsCut_96 (show 2 ≤ 100 + 8 * i ∧ 100 + 8 * i < 434 by omega) f571 fl_X3_11 rfl ?_
          refine r_iload rfl dX3_sayAsCut_99 rfl ?_
          refine r_aald (jn := 2) (v := .ref (102 + 8 * i + 2 * 2)) rfl dX3_sayAsCut_101 (show 2 ≤ 101 + 8 * i ∧ 101 + 8 * i < 434 by omega).1 (show 2 ≤ 101 + 8 * i ∧ 101 + 8 * i < 434 by omega).2 (hS566.say hi) (by decide) (by unfold vp_in; decide) rfl (by show va_rf (if _ < _ then _ else _) = _; rw [if_pos (show 2 < 3 by decide)]; rfl) ?_
          refine r_aload rfl dX3_sayAsCut_102 rfl ?_
          obtain ⟨g580, hw581⟩ := hS566.ws (wsAt_ln hi (w := 2) (show 2 < 3 by decide))
          obtain ⟨g583, hw584⟩ := hS566.ws (wsAt_ln hl (w := 2) (show 2 < 3 by decide))
          refine cl_X3_75 rfl rfl dX3_sayAsCut_104 (show _ ∧ _ from ⟨(wsAt_ln hi (w := 2) (show 2 < 3 by decide)).2.2.1, Nat.lt_of_succ_lt (wsAt_ln hi (w := 2) (show 2 < 3 by decide)).2.2.2⟩).1 (show _ ∧ _ from ⟨(wsAt_ln hi (w := 2) (show 2 < 3 by decide)).2.2.1, Nat.lt_of_succ_lt (wsAt_ln hi (w := 2) (show 2 < 3 by decide)).2.2.2⟩).2 hw581.2.2.1 (Nat.le_of_ble_eq_true rfl) ((s_X10_meet hw581 hw584 (by omega)).sh hS566) ?_
          rintro _ h585 _ ⟨⟨rfl, -, rfl⟩, -, hS586, -⟩
          refine r_iinc (y := 3) (ls' := [some (.ref (100 + 8 * i)), some (.ref (100 + 8 * j)), some (.ref (100 + 8 * l)), some (.int o), some (.int 3), some (.ref (102 + 8 * j + 2 * 2)), some (.ref (102 + 8 * l + 2 * 2))]) rfl dX3_sayAsCut_107 rfl (by decide) (Nat.le_of_ble_eq_true rfl) rfl ?_
          refine r_goto (pc' := 3) rfl dX3_sayAsCut_110 ?_
          refine r_iload rfl dX3_sayAsCut_3 rfl ?_
          refine r_iconst (v := 3) rfl dX3_sayAsCut_5 (by decide) ?_
          refine r_icmp_ge (tgt := 113) rfl rfl dX3_sayAsCut_6 (fun _ => ?_) (fun c => absurd c (by decide))
          exact r_ret dX3_sayAsCut_113 (rt_v rfl) rfl
        · refine r_aload_n rfl dX3_sayAsCut_80 rfl ?_
          obtain ⟨y589, y590, y591, y592, y593, y594, f588⟩ := hS566.ln hi
          refine r_getv 0 rfl dX3_sayAsCut_81 (show 2 ≤ 100 + 8 * i ∧ 100 + 8 * i < 434 by omega) f588 fl_X3_11 rfl ?_
          refine r_iload rfl dX3_sayAsCut_84 rfl ?_
          refine r_aald (jn := 2) (v := .ref (102 + 8 * i + 2 * 2)) rfl dX3_sayAsCut_86 (show 2 ≤ 101 + 8 * i ∧ 101 + 8 * i < 434 by omega).1 (show 2 ≤ 101 + 8 * i ∧ 101 + 8 * i < 434 by omega).2 (hS566.say hi) (by decide) (by unfold vp_in; decide) rfl (by show va_rf (if _ < _ then _ else _) = _; rw [if_pos (show 2 < 3 by decide)]; rfl) ?_
          refine r_aload rfl dX3_sayAsCut_87 rfl ?_
          obtain ⟨g597, hw598⟩ := hS566.ws (wsAt_ln hi (w := 2) (show 2 < 3 by decide))
          obtain ⟨g600, hw601⟩ := hS566.ws (wsAt_ln hl (w := 2) (show 2 < 3 by decide))
          refine cl_X3_72 rfl rfl dX3_sayAsCut_89 (show _ ∧ _ from ⟨(wsAt_ln hi (w := 2) (show 2 < 3 by decide)).2.2.1, Nat.lt_of_succ_lt (wsAt_ln hi (w := 2) (show 2 < 3 by decide)).2.2.2⟩).1 (show _ ∧ _ from ⟨(wsAt_ln hi (w := 2) (show 2 < 3 by decide)).2.2.1, Nat.lt_of_succ_lt (wsAt_ln hi (w := 2) (show 2 < 3 by decide)).2.2.2⟩).2 hw598.2.2.1 (Nat.le_of_ble_eq_true rfl) ((s_X10_join hw598 hw601 (by omega)).sh hS566) ?_
          rintro _ h602 _ ⟨⟨rfl, -, rfl⟩, -, hS603, -⟩
          refine r_goto (pc' := 107) rfl dX3_sayAsCut_92 ?_
          refine r_iinc (y := 3) (ls' := [some (.ref (100 + 8 * i)), some (.ref (100 + 8 * j)), some (.ref (100 + 8 * l)), some (.int o), some (.int 3), some (.ref (102 + 8 * j + 2 * 2)), some (.ref (102 + 8 * l + 2 * 2))]) rfl dX3_sayAsCut_107 rfl (by decide) (Nat.le_of_ble_eq_true rfl) rfl ?_
          refine r_goto (pc' := 3) rfl dX3_sayAsCut_110 ?_
          refine r_iload rfl dX3_sayAsCut_3 rfl ?_
          refine r_iconst (v := 3) rfl dX3_sayAsCut_5 (by decide) ?_
          refine r_icmp_ge (tgt := 113) rfl rfl dX3_sayAsCut_6 (fun _ => ?_) (fun c => absurd c (by decide))
          exact r_ret dX3_sayAsCut_113 (rt_v rfl) rfl
      · refine r_aload_n rfl dX3_sayAsCut_38 rfl ?_
        obtain ⟨y606, y607, y608, y609, y610, y611, f605⟩ := hS532.ln hi
        refine r_getv 0 rfl dX3_sayAsCut_39 (show 2 ≤ 100 + 8 * i ∧ 100 + 8 * i < 434 by omega) f605 fl_X3_11 rfl ?_
        refine r_iload rfl dX3_sayAsCut_42 rfl ?_
        refine r_aald (jn := 2) (v := .ref (102 + 8 * i + 2 * 2)) rfl dX3_sayAsCut_44 (show 2 ≤ 101 + 8 * i ∧ 101 + 8 * i < 434 by omega).1 (show 2 ≤ 101 + 8 * i ∧ 101 + 8 * i < 434 by omega).2 (hS532.say hi) (by decide) (by unfold vp_in; decide) rfl (by show va_rf (if _ < _ then _ else _) = _; rw [if_pos (show 2 < 3 by decide)]; rfl) ?_
        refine r_aload_n rfl dX3_sayAsCut_45 rfl ?_
        refine r_getv 6 rfl dX3_sayAsCut_46 (show 2 ≤ 100 + 8 * i ∧ 100 + 8 * i < 434 by omega) f605 fl_X3_24 rfl ?_
        refine r_aload rfl dX3_sayAsCut_49 rfl ?_
        refine r_aload rfl dX3_sayAsCut_51 rfl ?_
        obtain ⟨g614, hw615⟩ := hS532.ws (wsAt_ln hi (w := 2) (show 2 < 3 by decide))
        obtain ⟨g617, hw618⟩ := hS532.ws (wsAt_ln hl (w := 2) (show 2 < 3 by decide))
        obtain ⟨g620, hw621⟩ := hS532.ws (wsAt_ln hj (w := 2) (show 2 < 3 by decide))
        refine cl_X3_60 rfl rfl dX3_sayAsCut_53 (show _ ∧ _ from ⟨(wsAt_ln hi (w := 2) (show 2 < 3 by decide)).2.2.1, Nat.lt_of_succ_lt (wsAt_ln hi (w := 2) (show 2 < 3 by decide)).2.2.2⟩).1 (show _ ∧ _ from ⟨(wsAt_ln hi (w := 2) (show 2 < 3 by decide)).2.2.1, Nat.lt_of_succ_lt (wsAt_ln hi (w := 2) (show 2 < 3 by decide)).2.2.2⟩).2 hw615.2.2.1 (Nat.le_of_ble_eq_true rfl) ((s_X10_choose hw615 hw618 hw621 (by omega) (by omega)).sh hS532) ?_
        rintro _ h622 _ ⟨⟨rfl, -, rfl⟩, -, hS623, -⟩
        refine r_goto (pc' := 107) rfl dX3_sayAsCut_56 ?_
        refine r_iinc (y := 3) (ls' := [some (.ref (100 + 8 * i)), some (.ref (100 + 8 * j)), some (.ref (100 + 8 * l)), some (.int o), some (.int 3), some (.ref (102 + 8 * j + 2 * 2)), some (.ref (102 + 8 * l + 2 * 2))]) rfl dX3_sayAsCut_107 rfl (by decide) (Nat.le_of_ble_eq_true rfl) rfl ?_
        refine r_goto (pc' := 3) rfl dX3_sayAsCut_110 ?_
        refine r_iload rfl dX3_sayAsCut_3 rfl ?_
        refine r_iconst (v := 3) rfl dX3_sayAsCut_5 (by decide) ?_
        refine r_icmp_ge (tgt := 113) rfl rfl dX3_sayAsCut_6 (fun _ => ?_) (fun c => absurd c (by decide))
        exact r_ret dX3_sayAsCut_113 (rt_v rfl) rfl
