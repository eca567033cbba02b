theorem dJ6_bitCount_0f7a4_0 : decode cJ6_bitCount_0f7a4 0 = .ok (.iload_n 0, 1) := by decide +kernel
theorem dJ6_bitCount_0f7a4_1 : decode cJ6_bitCount_0f7a4 1 = .ok (.iload_n 0, 1) := by decide +kernel
theorem dJ6_bitCount_0f7a4_2 : decode cJ6_bitCount_0f7a4 2 = .ok (.iconst 1, 1) := by decide +kernel
theorem dJ6_bitCount_0f7a4_3 : decode cJ6_bitCount_0f7a4 3 = .ok (.iushr, 1) := by decide +kernel
theorem dJ6_bitCount_0f7a4_4 : decode cJ6_bitCount_0f7a4 4 = .ok (.ldc_w 265, 3) := by decide +kernel
theorem dJ6_bitCount_0f7a4_7 : decode cJ6_bitCount_0f7a4 7 = .ok (.iand, 1) := by decide +kernel
theorem dJ6_bitCount_0f7a4_8 : decode cJ6_bitCount_0f7a4 8 = .ok (.isub, 1) := by decide +kernel
theorem dJ6_bitCount_0f7a4_9 : decode cJ6_bitCount_0f7a4 9 = .ok (.istore_n 0, 1) := by decide +kernel
theorem dJ6_bitCount_0f7a4_10 : decode cJ6_bitCount_0f7a4 10 = .ok (.iload_n 0, 1) := by decide +kernel
theorem dJ6_bitCount_0f7a4_11 : decode cJ6_bitCount_0f7a4 11 = .ok (.ldc_w 266, 3) := by decide +kernel
theorem dJ6_bitCount_0f7a4_14 : decode cJ6_bitCount_0f7a4 14 = .ok (.iand, 1) := by decide +kernel
theorem dJ6_bitCount_0f7a4_15 : decode cJ6_bitCount_0f7a4 15 = .ok (.iload_n 0, 1) := by decide +kernel
theorem dJ6_bitCount_0f7a4_16 : decode cJ6_bitCount_0f7a4 16 = .ok (.iconst 2, 1) := by decide +kernel
theorem dJ6_bitCount_0f7a4_17 : decode cJ6_bitCount_0f7a4 17 = .ok (.iushr, 1) := by decide +kernel
theorem dJ6_bitCount_0f7a4_18 : decode cJ6_bitCount_0f7a4 18 = .ok (.ldc_w 266, 3) := by decide +kernel
theorem dJ6_bitCount_0f7a4_21 : decode cJ6_bitCount_0f7a4 21 = .ok (.iand, 1) := by decide +kernel
theorem dJ6_bitCount_0f7a4_22 : decode cJ6_bitCount_0f7a4 22 = .ok (.iadd, 1) := by decide +kernel
theorem dJ6_bitCount_0f7a4_23 : decode cJ6_bitCount_0f7a4 23 = .ok (.istore_n 0, 1) := by decide +kernel
theorem dJ6_bitCount_0f7a4_24 : decode cJ6_bitCount_0f7a4 24 = .ok (.iload_n 0, 1) := by decide +kernel
theorem dJ6_bitCount_0f7a4_25 : decode cJ6_bitCount_0f7a4 25 = .ok (.iload_n 0, 1) := by decide +kernel
theorem dJ6_bitCount_0f7a4_26 : decode cJ6_bitCount_0f7a4 26 = .ok (.iconst 4, 1) := by decide +kernel
theorem dJ6_bitCount_0f7a4_27 : decode cJ6_bitCount_0f7a4 27 = .ok (.iushr, 1) := by decide +kernel
theorem dJ6_bitCount_0f7a4_28 : decode cJ6_bitCount_0f7a4 28 = .ok (.iadd, 1) := by decide +kernel
theorem dJ6_bitCount_0f7a4_29 : decode cJ6_bitCount_0f7a4 29 = .ok (.ldc_w 267, 3) := by decide +kernel
theorem dJ6_bitCount_0f7a4_32 : decode cJ6_bitCount_0f7a4 32 = .ok (.iand, 1) := by decide +kernel
theorem dJ6_bitCount_0f7a4_33 : decode cJ6_bitCount_0f7a4 33 = .ok (.istore_n 0, 1) := by decide +kernel
theorem dJ6_bitCount_0f7a4_34 : decode cJ6_bitCount_0f7a4 34 = .ok (.iload_n 0, 1) := by decide +kernel
theorem dJ6_bitCount_0f7a4_35 : decode cJ6_bitCount_0f7a4 35 = .ok (.iload_n 0, 1) := by decide +kernel
theorem dJ6_bitCount_0f7a4_36 : decode cJ6_bitCount_0f7a4 36 = .ok (.bipush 8, 2) := by decide +kernel
theorem dJ6_bitCount_0f7a4_38 : decode cJ6_bitCount_0f7a4 38 = .ok (.iushr, 1) := by decide +kernel
theorem dJ6_bitCount_0f7a4_39 : decode cJ6_bitCount_0f7a4 39 = .ok (.iadd, 1) := by decide +kernel
theorem dJ6_bitCount_0f7a4_40 : decode cJ6_bitCount_0f7a4 40 = .ok (.istore_n 0, 1) := by decide +kernel
theorem dJ6_bitCount_0f7a4_41 : decode cJ6_bitCount_0f7a4 41 = .ok (.iload_n 0, 1) := by decide +kernel
theorem dJ6_bitCount_0f7a4_42 : decode cJ6_bitCount_0f7a4 42 = .ok (.iload_n 0, 1) := by decide +kernel
theorem dJ6_bitCount_0f7a4_43 : decode cJ6_bitCount_0f7a4 43 = .ok (.bipush 16, 2) := by decide +kernel
theorem dJ6_bitCount_0f7a4_45 : decode cJ6_bitCount_0f7a4 45 = .ok (.iushr, 1) := by decide +kernel
theorem dJ6_bitCount_0f7a4_46 : decode cJ6_bitCount_0f7a4 46 = .ok (.iadd, 1) := by decide +kernel
theorem dJ6_bitCount_0f7a4_47 : decode cJ6_bitCount_0f7a4 47 = .ok (.istore_n 0, 1) := by decide +kernel
theorem dJ6_bitCount_0f7a4_48 : decode cJ6_bitCount_0f7a4 48 = .ok (.iload_n 0, 1) := by decide +kernel
theorem dJ6_bitCount_0f7a4_49 : decode cJ6_bitCount_0f7a4 49 = .ok (.bipush 63, 2) := by decide +kernel
theorem dJ6_bitCount_0f7a4_51 : decode cJ6_bitCount_0f7a4 51 = .ok (.iand, 1) := by decide +kernel
theorem dJ6_bitCount_0f7a4_52 : decode cJ6_bitCount_0f7a4 52 = .ok (.ireturn, 1) := by decide +kernel
theorem dX3_property_0 : decode cX3_property 0 = .ok (.iload_n 1, 1) := by decide +kernel
theorem dX3_property_1 : decode cX3_property 1 = .ok (.tableswitch 69 0 5 #[39, 44, 49, 54, 59, 64], 39) := by decide +kernel
theorem dX3_property_40 : decode cX3_property 40 = .ok (.aload_n 0, 1) := by decide +kernel
theorem dX3_property_41 : decode cX3_property 41 = .ok (.getfield 28, 3) := by decide +kernel
theorem dX3_property_44 : decode cX3_property 44 = .ok (.ireturn, 1) := by decide +kernel
theorem dX3_property_45 : decode cX3_property 45 = .ok (.aload_n 0, 1) := by decide +kernel
theorem dX3_property_46 : decode cX3_property 46 = .ok (.getfield 31, 3) := by decide +kernel
theorem dX3_property_49 : decode cX3_property 49 = .ok (.ireturn, 1) := by decide +kernel
theorem dX3_property_50 : decode cX3_property 50 = .ok (.aload_n 0, 1) := by decide +kernel
theorem dX3_property_51 : decode cX3_property 51 = .ok (.getfield 34, 3) := by decide +kernel
theorem dX3_property_54 : decode cX3_property 54 = .ok (.ireturn, 1) := by decide +kernel
theorem dX3_property_55 : decode cX3_property 55 = .ok (.aload_n 0, 1) := by decide +kernel
theorem dX3_property_56 : decode cX3_property 56 = .ok (.getfield 17, 3) := by decide +kernel
theorem dX3_property_59 : decode cX3_property 59 = .ok (.ireturn, 1) := by decide +kernel
theorem dX3_property_60 : decode cX3_property 60 = .ok (.aload_n 0, 1) := by decide +kernel
theorem dX3_property_61 : decode cX3_property 61 = .ok (.getfield 21, 3) := by decide +kernel
theorem dX3_property_64 : decode cX3_property 64 = .ok (.ireturn, 1) := by decide +kernel
theorem dX3_property_65 : decode cX3_property 65 = .ok (.aload_n 0, 1) := by decide +kernel
theorem dX3_property_66 : decode cX3_property 66 = .ok (.getfield 24, 3) := by decide +kernel
theorem dX3_property_69 : decode cX3_property 69 = .ok (.ireturn, 1) := by decide +kernel
theorem dX3_property_70 : decode cX3_property 70 = .ok (.iconst (-1), 1) := by decide +kernel
theorem dX3_property_71 : decode cX3_property 71 = .ok (.ireturn, 1) := by decide +kernel
theorem dX3_literals_0 : decode cX3_literals 0 = .ok (.aload_n 0, 1) := by decide +kernel
theorem dX3_literals_1 : decode cX3_literals 1 = .ok (.getfield 28, 3) := by decide +kernel
theorem dX3_literals_4 : decode cX3_literals 4 = .ok (.invokestatic 37, 3) := by decide +kernel
theorem dX3_literals_7 : decode cX3_literals 7 = .ok (.aload_n 0, 1) := by decide +kernel
theorem dX3_literals_8 : decode cX3_literals 8 = .ok (.getfield 31, 3) := by decide +kernel
theorem dX3_literals_11 : decode cX3_literals 11 = .ok (.invokestatic 37, 3) := by decide +kernel
theorem dX3_literals_14 : decode cX3_literals 14 = .ok (.iadd, 1) := by decide +kernel
theorem dX3_literals_15 : decode cX3_literals 15 = .ok (.ireturn, 1) := by decide +kernel
theorem dX3_letters_0 : decode cX3_letters 0 = .ok (.aload_n 0, 1) := by decide +kernel
theorem dX3_letters_1 : decode cX3_letters 1 = .ok (.getfield 28, 3) := by decide +kernel
theorem dX3_letters_4 : decode cX3_letters 4 = .ok (.aload_n 0, 1) := by decide +kernel
theorem dX3_letters_5 : decode cX3_letters 5 = .ok (.getfield 31, 3) := by decide +kernel
theorem dX3_letters_8 : decode cX3_letters 8 = .ok (.ior, 1) := by decide +kernel
theorem dX3_letters_9 : decode cX3_letters 9 = .ok (.ireturn, 1) := by decide +kernel
theorem dX3_isSoIn_0 : decode cX3_isSoIn 0 = .ok (.aload_n 0, 1) := by decide +kernel
theorem dX3_isSoIn_1 : decode cX3_isSoIn 1 = .ok (.getfield 28, 3) := by decide +kernel
theorem dX3_isSoIn_4 : decode cX3_isSoIn 4 = .ok (.iload_n 1, 1) := by decide +kernel
theorem dX3_isSoIn_5 : decode cX3_isSoIn 5 = .ok (.iand, 1) := by decide +kernel
theorem dX3_isSoIn_6 : decode cX3_isSoIn 6 = .ok (.aload_n 0, 1) := by decide +kernel
theorem dX3_isSoIn_7 : decode cX3_isSoIn 7 = .ok (.getfield 31, 3) := by decide +kernel
theorem dX3_isSoIn_10 : decode cX3_isSoIn 10 = .ok (.iload_n 1, 1) := by decide +kernel
theorem dX3_isSoIn_11 : decode cX3_isSoIn 11 = .ok (.iconst (-1), 1) := by decide +kernel
theorem dX3_isSoIn_12 : decode cX3_isSoIn 12 = .ok (.ixor, 1) := by decide +kernel
theorem dX3_isSoIn_13 : decode cX3_isSoIn 13 = .ok (.iand, 1) := by decide +kernel
theorem dX3_isSoIn_14 : decode cX3_isSoIn 14 = .ok (.ior, 1) := by decide +kernel
theorem dX3_isSoIn_15 : decode cX3_isSoIn 15 = .ok (.ifCond .eq 7, 3) := by decide +kernel
theorem dX3_isSoIn_18 : decode cX3_isSoIn 18 = .ok (.iconst 1, 1) := by decide +kernel
theorem dX3_isSoIn_19 : decode cX3_isSoIn 19 = .ok (.goto 4, 3) := by decide +kernel
theorem dX3_isSoIn_22 : decode cX3_isSoIn 22 = .ok (.iconst 0, 1) := by decide +kernel
theorem dX3_isSoIn_23 : decode cX3_isSoIn 23 = .ok (.ireturn, 1) := by decide +kernel
theorem dX3_sayingBy_0 : decode cX3_sayingBy 0 = .ok (.aload_n 0, 1) := by decide +kernel
theorem dX3_sayingBy_1 : decode cX3_sayingBy 1 = .ok (.getfield 11, 3) := by decide +kernel
theorem dX3_sayingBy_4 : decode cX3_sayingBy 4 = .ok (.iload_n 1, 1) := by decide +kernel
theorem dX3_sayingBy_5 : decode cX3_sayingBy 5 = .ok (.ifCond .lt 8, 3) := by decide +kernel
theorem dX3_sayingBy_8 : decode cX3_sayingBy 8 = .ok (.iload_n 1, 1) := by decide +kernel
theorem dX3_sayingBy_9 : decode cX3_sayingBy 9 = .ok (.iconst 3, 1) := by decide +kernel
theorem dX3_sayingBy_10 : decode cX3_sayingBy 10 = .ok (.if_icmp .lt 7, 3) := by decide +kernel
theorem dX3_sayingBy_13 : decode cX3_sayingBy 13 = .ok (.iconst 0, 1) := by decide +kernel
theorem dX3_sayingBy_14 : decode cX3_sayingBy 14 = .ok (.goto 4, 3) := by decide +kernel
theorem dX3_sayingBy_17 : decode cX3_sayingBy 17 = .ok (.iload_n 1, 1) := by decide +kernel
theorem dX3_sayingBy_18 : decode cX3_sayingBy 18 = .ok (.aaload, 1) := by decide +kernel
theorem dX3_sayingBy_19 : decode cX3_sayingBy 19 = .ok (.areturn, 1) := by decide +kernel
theorem dX3_gatherWorlds_0 : decode cX3_gatherWorlds 0 = .ok (.aload_n 1, 1) := by decide +kernel
theorem dX3_gatherWorlds_1 : decode cX3_gatherWorlds 1 = .ok (.invokevirtual 43, 3) := by decide +kernel
theorem dX3_gatherWorlds_4 : decode cX3_gatherWorlds 4 = .ok (.iconst 0, 1) := by decide +kernel
theorem dX3_gatherWorlds_5 : decode cX3_gatherWorlds 5 = .ok (.istore_n 3, 1) := by decide +kernel
theorem dX3_gatherWorlds_6 : decode cX3_gatherWorlds 6 = .ok (.iload_n 3, 1) := by decide +kernel
theorem dX3_gatherWorlds_7 : decode cX3_gatherWorlds 7 = .ok (.bipush 8, 2) := by decide +kernel
theorem dX3_gatherWorlds_9 : decode cX3_gatherWorlds 9 = .ok (.if_icmp .ge 48, 3) := by decide +kernel
theorem dX3_gatherWorlds_12 : decode cX3_gatherWorlds 12 = .ok (.iconst 1, 1) := by decide +kernel
theorem dX3_gatherWorlds_13 : decode cX3_gatherWorlds 13 = .ok (.iload_n 3, 1) := by decide +kernel
theorem dX3_gatherWorlds_14 : decode cX3_gatherWorlds 14 = .ok (.ishl, 1) := by decide +kernel
theorem dX3_gatherWorlds_15 : decode cX3_gatherWorlds 15 = .ok (.iload_n 2, 1) := by decide +kernel
theorem dX3_gatherWorlds_16 : decode cX3_gatherWorlds 16 = .ok (.iand, 1) := by decide +kernel
theorem dX3_gatherWorlds_17 : decode cX3_gatherWorlds 17 = .ok (.istore 4, 2) := by decide +kernel
theorem dX3_gatherWorlds_19 : decode cX3_gatherWorlds 19 = .ok (.aload_n 0, 1) := by decide +kernel
theorem dX3_gatherWorlds_20 : decode cX3_gatherWorlds 20 = .ok (.getfield 28, 3) := by decide +kernel
theorem dX3_gatherWorlds_23 : decode cX3_gatherWorlds 23 = .ok (.iload 4, 2) := by decide +kernel
theorem dX3_gatherWorlds_25 : decode cX3_gatherWorlds 25 = .ok (.iand, 1) := by decide +kernel
theorem dX3_gatherWorlds_26 : decode cX3_gatherWorlds 26 = .ok (.ifCond .eq 9, 3) := by decide +kernel
theorem dX3_gatherWorlds_29 : decode cX3_gatherWorlds 29 = .ok (.aload_n 1, 1) := by decide +kernel
theorem dX3_gatherWorlds_30 : decode cX3_gatherWorlds 30 = .ok (.iload_n 3, 1) := by decide +kernel
theorem dX3_gatherWorlds_31 : decode cX3_gatherWorlds 31 = .ok (.iconst 1, 1) := by decide +kernel
theorem dX3_gatherWorlds_32 : decode cX3_gatherWorlds 32 = .ok (.invokevirtual 46, 3) := by decide +kernel
theorem dX3_gatherWorlds_35 : decode cX3_gatherWorlds 35 = .ok (.aload_n 0, 1) := by decide +kernel
theorem dX3_gatherWorlds_36 : decode cX3_gatherWorlds 36 = .ok (.getfield 31, 3) := by decide +kernel
theorem dX3_gatherWorlds_39 : decode cX3_gatherWorlds 39 = .ok (.iload 4, 2) := by decide +kernel
theorem dX3_gatherWorlds_41 : decode cX3_gatherWorlds 41 = .ok (.iand, 1) := by decide +kernel
theorem dX3_gatherWorlds_42 : decode cX3_gatherWorlds 42 = .ok (.ifCond .eq 9, 3) := by decide +kernel
theorem dX3_gatherWorlds_45 : decode cX3_gatherWorlds 45 = .ok (.aload_n 1, 1) := by decide +kernel
theorem dX3_gatherWorlds_46 : decode cX3_gatherWorlds 46 = .ok (.iload_n 3, 1) := by decide +kernel
theorem dX3_gatherWorlds_47 : decode cX3_gatherWorlds 47 = .ok (.iconst 0, 1) := by decide +kernel
theorem dX3_gatherWorlds_48 : decode cX3_gatherWorlds 48 = .ok (.invokevirtual 46, 3) := by decide +kernel
theorem dX3_gatherWorlds_51 : decode cX3_gatherWorlds 51 = .ok (.iinc 3 1, 3) := by decide +kernel
theorem dX3_gatherWorlds_54 : decode cX3_gatherWorlds 54 = .ok (.goto (-48), 3) := by decide +kernel
theorem dX3_gatherWorlds_57 : decode cX3_gatherWorlds 57 = .ok (.return_, 1) := by decide +kernel
theorem dX3_becomeClause_0 : decode cX3_becomeClause 0 = .ok (.aload_n 0, 1) := by decide +kernel
theorem dX3_becomeClause_1 : decode cX3_becomeClause 1 = .ok (.iload_n 2, 1) := by decide +kernel
theorem dX3_becomeClause_2 : decode cX3_becomeClause 2 = .ok (.putfield 28, 3) := by decide +kernel
theorem dX3_becomeClause_5 : decode cX3_becomeClause 5 = .ok (.aload_n 0, 1) := by decide +kernel
theorem dX3_becomeClause_6 : decode cX3_becomeClause 6 = .ok (.iload_n 3, 1) := by decide +kernel
theorem dX3_becomeClause_7 : decode cX3_becomeClause 7 = .ok (.putfield 31, 3) := by decide +kernel
theorem dX3_becomeClause_10 : decode cX3_becomeClause 10 = .ok (.aload_n 0, 1) := by decide +kernel
theorem dX3_becomeClause_11 : decode cX3_becomeClause 11 = .ok (.iload_n 1, 1) := by decide +kernel
theorem dX3_becomeClause_12 : decode cX3_becomeClause 12 = .ok (.putfield 34, 3) := by decide +kernel
theorem dX3_becomeClause_15 : decode cX3_becomeClause 15 = .ok (.aload_n 0, 1) := by decide +kernel
theorem dX3_becomeClause_16 : decode cX3_becomeClause 16 = .ok (.bipush (-9), 2) := by decide +kernel
theorem dX3_becomeClause_18 : decode cX3_becomeClause 18 = .ok (.putfield 17, 3) := by decide +kernel
theorem dX3_becomeClause_21 : decode cX3_becomeClause 21 = .ok (.aload_n 0, 1) := by decide +kernel
theorem dX3_becomeClause_22 : decode cX3_becomeClause 22 = .ok (.bipush (-9), 2) := by decide +kernel
theorem dX3_becomeClause_24 : decode cX3_becomeClause 24 = .ok (.putfield 21, 3) := by decide +kernel
theorem dX3_becomeClause_27 : decode cX3_becomeClause 27 = .ok (.aload_n 0, 1) := by decide +kernel
theorem dX3_becomeClause_28 : decode cX3_becomeClause 28 = .ok (.bipush (-9), 2) := by decide +kernel
theorem dX3_becomeClause_30 : decode cX3_becomeClause 30 = .ok (.putfield 24, 3) := by decide +kernel
theorem dX3_becomeClause_33 : decode cX3_becomeClause 33 = .ok (.return_, 1) := by decide +kernel
theorem dX3_rememberCut_0 : decode cX3_rememberCut 0 = .ok (.aload_n 0, 1) := by decide +kernel
theorem dX3_rememberCut_1 : decode cX3_rememberCut 1 = .ok (.iconst 0, 1) := by decide +kernel
theorem dX3_rememberCut_2 : decode cX3_rememberCut 2 = .ok (.putfield 34, 3) := by decide +kernel
theorem dX3_rememberCut_5 : decode cX3_rememberCut 5 = .ok (.aload_n 0, 1) := by decide +kernel
theorem dX3_rememberCut_6 : decode cX3_rememberCut 6 = .ok (.iload_n 1, 1) := by decide +kernel
theorem dX3_rememberCut_7 : decode cX3_rememberCut 7 = .ok (.putfield 17, 3) := by decide +kernel
theorem dX3_rememberCut_10 : decode cX3_rememberCut 10 = .ok (.aload_n 0, 1) := by decide +kernel
theorem dX3_rememberCut_11 : decode cX3_rememberCut 11 = .ok (.iload_n 2, 1) := by decide +kernel
theorem dX3_rememberCut_12 : decode cX3_rememberCut 12 = .ok (.putfield 21, 3) := by decide +kernel
theorem dX3_rememberCut_15 : decode cX3_rememberCut 15 = .ok (.aload_n 0, 1) := by decide +kernel
theorem dX3_rememberCut_16 : decode cX3_rememberCut 16 = .ok (.iload_n 3, 1) := by decide +kernel
theorem dX3_rememberCut_17 : decode cX3_rememberCut 17 = .ok (.putfield 24, 3) := by decide +kernel
theorem dX3_rememberCut_20 : decode cX3_rememberCut 20 = .ok (.return_, 1) := by decide +kernel
theorem dX3_sayAsClause_0 : decode cX3_sayAsClause 0 = .ok (.aload_n 0, 1) := by decide +kernel
theorem dX3_sayAsClause_1 : decode cX3_sayAsClause 1 = .ok (.getfield 34, 3) := by decide +kernel
theorem dX3_sayAsClause_4 : decode cX3_sayAsClause 4 = .ok (.iconst 1, 1) := by decide +kernel
theorem dX3_sayAsClause_5 : decode cX3_sayAsClause 5 = .ok (.if_icmp .ne 35, 3) := by decide +kernel
theorem dX3_sayAsClause_8 : decode cX3_sayAsClause 8 = .ok (.aload_n 0, 1) := by decide +kernel
theorem dX3_sayAsClause_9 : decode cX3_sayAsClause 9 = .ok (.aload_n 0, 1) := by decide +kernel
theorem dX3_sayAsClause_10 : decode cX3_sayAsClause 10 = .ok (.getfield 11, 3) := by decide +kernel
theorem dX3_sayAsClause_13 : decode cX3_sayAsClause 13 = .ok (.iconst 0, 1) := by decide +kernel
theorem dX3_sayAsClause_14 : decode cX3_sayAsClause 14 = .ok (.aaload, 1) := by decide +kernel
theorem dX3_sayAsClause_15 : decode cX3_sayAsClause 15 = .ok (.iload_n 1, 1) := by decide +kernel
theorem dX3_sayAsClause_16 : decode cX3_sayAsClause 16 = .ok (.invokevirtual 50, 3) := by decide +kernel
theorem dX3_sayAsClause_19 : decode cX3_sayAsClause 19 = .ok (.aload_n 0, 1) := by decide +kernel
theorem dX3_sayAsClause_20 : decode cX3_sayAsClause 20 = .ok (.getfield 11, 3) := by decide +kernel
theorem dX3_sayAsClause_23 : decode cX3_sayAsClause 23 = .ok (.iconst 1, 1) := by decide +kernel
theorem dX3_sayAsClause_24 : decode cX3_sayAsClause 24 = .ok (.aaload, 1) := by decide +kernel
theorem dX3_sayAsClause_25 : decode cX3_sayAsClause 25 = .ok (.invokevirtual 43, 3) := by decide +kernel
theorem dX3_sayAsClause_28 : decode cX3_sayAsClause 28 = .ok (.aload_n 0, 1) := by decide +kernel
theorem dX3_sayAsClause_29 : decode cX3_sayAsClause 29 = .ok (.getfield 11, 3) := by decide +kernel
theorem dX3_sayAsClause_32 : decode cX3_sayAsClause 32 = .ok (.iconst 2, 1) := by decide +kernel
theorem dX3_sayAsClause_33 : decode cX3_sayAsClause 33 = .ok (.aaload, 1) := by decide +kernel
theorem dX3_sayAsClause_34 : decode cX3_sayAsClause 34 = .ok (.invokevirtual 43, 3) := by decide +kernel
theorem dX3_sayAsClause_37 : decode cX3_sayAsClause 37 = .ok (.goto 41, 3) := by decide +kernel
theorem dX3_sayAsClause_40 : decode cX3_sayAsClause 40 = .ok (.aload_n 0, 1) := by decide +kernel
theorem dX3_sayAsClause_41 : decode cX3_sayAsClause 41 = .ok (.getfield 11, 3) := by decide +kernel
theorem dX3_sayAsClause_44 : decode cX3_sayAsClause 44 = .ok (.iconst 0, 1) := by decide +kernel
theorem dX3_sayAsClause_45 : decode cX3_sayAsClause 45 = .ok (.aaload, 1) := by decide +kernel
theorem dX3_sayAsClause_46 : decode cX3_sayAsClause 46 = .ok (.invokevirtual 54, 3) := by decide +kernel
theorem dX3_sayAsClause_49 : decode cX3_sayAsClause 49 = .ok (.aload_n 0, 1) := by decide +kernel
theorem dX3_sayAsClause_50 : decode cX3_sayAsClause 50 = .ok (.aload_n 0, 1) := by decide +kernel
theorem dX3_sayAsClause_51 : decode cX3_sayAsClause 51 = .ok (.getfield 11, 3) := by decide +kernel
theorem dX3_sayAsClause_54 : decode cX3_sayAsClause 54 = .ok (.iconst 1, 1) := by decide +kernel
theorem dX3_sayAsClause_55 : decode cX3_sayAsClause 55 = .ok (.aaload, 1) := by decide +kernel
theorem dX3_sayAsClause_56 : decode cX3_sayAsClause 56 = .ok (.iload_n 1, 1) := by decide +kernel
theorem dX3_sayAsClause_57 : decode cX3_sayAsClause 57 = .ok (.invokevirtual 50, 3) := by decide +kernel
theorem dX3_sayAsClause_60 : decode cX3_sayAsClause 60 = .ok (.aload_n 0, 1) := by decide +kernel
theorem dX3_sayAsClause_61 : decode cX3_sayAsClause 61 = .ok (.getfield 11, 3) := by decide +kernel
theorem dX3_sayAsClause_64 : decode cX3_sayAsClause 64 = .ok (.iconst 1, 1) := by decide +kernel
theorem dX3_sayAsClause_65 : decode cX3_sayAsClause 65 = .ok (.aaload, 1) := by decide +kernel
theorem dX3_sayAsClause_66 : decode cX3_sayAsClause 66 = .ok (.invokevirtual 57, 3) := by decide +kernel
theorem dX3_sayAsClause_69 : decode cX3_sayAsClause 69 = .ok (.aload_n 0, 1) := by decide +kernel
theorem dX3_sayAsClause_70 : decode cX3_sayAsClause 70 = .ok (.getfield 11, 3) := by decide +kernel
theorem dX3_sayAsClause_73 : decode cX3_sayAsClause 73 = .ok (.iconst 2, 1) := by decide +kernel
theorem dX3_sayAsClause_74 : decode cX3_sayAsClause 74 = .ok (.aaload, 1) := by decide +kernel
theorem dX3_sayAsClause_75 : decode cX3_sayAsClause 75 = .ok (.invokevirtual 54, 3) := by decide +kernel
theorem dX3_sayAsClause_78 : decode cX3_sayAsClause 78 = .ok (.return_, 1) := by decide +kernel
theorem dX3_becomeCut_0 : decode cX3_becomeCut 0 = .ok (.iconst 1, 1) := by decide +kernel
theorem dX3_becomeCut_1 : decode cX3_becomeCut 1 = .ok (.iload_n 3, 1) := by decide +kernel
theorem dX3_becomeCut_2 : decode cX3_becomeCut 2 = .ok (.ishl, 1) := by decide +kernel
theorem dX3_becomeCut_3 : decode cX3_becomeCut 3 = .ok (.istore 4, 2) := by decide +kernel
theorem dX3_becomeCut_5 : decode cX3_becomeCut 5 = .ok (.aload_n 1, 1) := by decide +kernel
theorem dX3_becomeCut_6 : decode cX3_becomeCut 6 = .ok (.getfield 28, 3) := by decide +kernel
theorem dX3_becomeCut_9 : decode cX3_becomeCut 9 = .ok (.iload 4, 2) := by decide +kernel
theorem dX3_becomeCut_11 : decode cX3_becomeCut 11 = .ok (.iand, 1) := by decide +kernel
theorem dX3_becomeCut_12 : decode cX3_becomeCut 12 = .ok (.ifCond .eq 13, 3) := by decide +kernel
theorem dX3_becomeCut_15 : decode cX3_becomeCut 15 = .ok (.aload_n 2, 1) := by decide +kernel
theorem dX3_becomeCut_16 : decode cX3_becomeCut 16 = .ok (.getfield 31, 3) := by decide +kernel
theorem dX3_becomeCut_19 : decode cX3_becomeCut 19 = .ok (.iload 4, 2) := by decide +kernel
theorem dX3_becomeCut_21 : decode cX3_becomeCut 21 = .ok (.iand, 1) := by decide +kernel
theorem dX3_becomeCut_22 : decode cX3_becomeCut 22 = .ok (.ifCond .ne 5, 3) := by decide +kernel
theorem dX3_becomeCut_25 : decode cX3_becomeCut 25 = .ok (.iconst 0, 1) := by decide +kernel
theorem dX3_becomeCut_26 : decode cX3_becomeCut 26 = .ok (.ireturn, 1) := by decide +kernel
theorem dX3_becomeCut_27 : decode cX3_becomeCut 27 = .ok (.aload_n 1, 1) := by decide +kernel
theorem dX3_becomeCut_28 : decode cX3_becomeCut 28 = .ok (.getfield 28, 3) := by decide +kernel
theorem dX3_becomeCut_31 : decode cX3_becomeCut 31 = .ok (.iload 4, 2) := by decide +kernel
theorem dX3_becomeCut_33 : decode cX3_becomeCut 33 = .ok (.iconst (-1), 1) := by decide +kernel
theorem dX3_becomeCut_34 : decode cX3_becomeCut 34 = .ok (.ixor, 1) := by decide +kernel
theorem dX3_becomeCut_35 : decode cX3_becomeCut 35 = .ok (.iand, 1) := by decide +kernel
theorem dX3_becomeCut_36 : decode cX3_becomeCut 36 = .ok (.aload_n 2, 1) := by decide +kernel
theorem dX3_becomeCut_37 : decode cX3_becomeCut 37 = .ok (.getfield 28, 3) := by decide +kernel
theorem dX3_becomeCut_40 : decode cX3_becomeCut 40 = .ok (.ior, 1) := by decide +kernel
theorem dX3_becomeCut_41 : decode cX3_becomeCut 41 = .ok (.istore 5, 2) := by decide +kernel
theorem dX3_becomeCut_43 : decode cX3_becomeCut 43 = .ok (.aload_n 1, 1) := by decide +kernel
theorem dX3_becomeCut_44 : decode cX3_becomeCut 44 = .ok (.getfield 31, 3) := by decide +kernel
theorem dX3_becomeCut_47 : decode cX3_becomeCut 47 = .ok (.aload_n 2, 1) := by decide +kernel
theorem dX3_becomeCut_48 : decode cX3_becomeCut 48 = .ok (.getfield 31, 3) := by decide +kernel
theorem dX3_becomeCut_51 : decode cX3_becomeCut 51 = .ok (.iload 4, 2) := by decide +kernel
theorem dX3_becomeCut_53 : decode cX3_becomeCut 53 = .ok (.iconst (-1), 1) := by decide +kernel
theorem dX3_becomeCut_54 : decode cX3_becomeCut 54 = .ok (.ixor, 1) := by decide +kernel
theorem dX3_becomeCut_55 : decode cX3_becomeCut 55 = .ok (.iand, 1) := by decide +kernel
theorem dX3_becomeCut_56 : decode cX3_becomeCut 56 = .ok (.ior, 1) := by decide +kernel
theorem dX3_becomeCut_57 : decode cX3_becomeCut 57 = .ok (.istore 6, 2) := by decide +kernel
theorem dX3_becomeCut_59 : decode cX3_becomeCut 59 = .ok (.iload 5, 2) := by decide +kernel
theorem dX3_becomeCut_61 : decode cX3_becomeCut 61 = .ok (.iload 6, 2) := by decide +kernel
theorem dX3_becomeCut_63 : decode cX3_becomeCut 63 = .ok (.iand, 1) := by decide +kernel
theorem dX3_becomeCut_64 : decode cX3_becomeCut 64 = .ok (.ifCond .eq 5, 3) := by decide +kernel
theorem dX3_becomeCut_67 : decode cX3_becomeCut 67 = .ok (.iconst 0, 1) := by decide +kernel
theorem dX3_becomeCut_68 : decode cX3_becomeCut 68 = .ok (.ireturn, 1) := by decide +kernel
theorem dX3_becomeCut_69 : decode cX3_becomeCut 69 = .ok (.aload_n 0, 1) := by decide +kernel
theorem dX3_becomeCut_70 : decode cX3_becomeCut 70 = .ok (.iload 5, 2) := by decide +kernel
theorem dX3_becomeCut_72 : decode cX3_becomeCut 72 = .ok (.putfield 28, 3) := by decide +kernel
theorem dX3_becomeCut_75 : decode cX3_becomeCut 75 = .ok (.aload_n 0, 1) := by decide +kernel
theorem dX3_becomeCut_76 : decode cX3_becomeCut 76 = .ok (.iload 6, 2) := by decide +kernel
theorem dX3_becomeCut_78 : decode cX3_becomeCut 78 = .ok (.putfield 31, 3) := by decide +kernel
theorem dX3_becomeCut_81 : decode cX3_becomeCut 81 = .ok (.iconst 1, 1) := by decide +kernel
theorem dX3_becomeCut_82 : decode cX3_becomeCut 82 = .ok (.ireturn, 1) := by decide +kernel
theorem dX3_joins_0 : decode cX3_joins 0 = .ok (.iload_n 1, 1) := by decide +kernel
theorem dX3_joins_1 : decode cX3_joins 1 = .ok (.iconst 1, 1) := by decide +kernel
theorem dX3_joins_2 : decode cX3_joins 2 = .ok (.if_icmp .eq 13, 3) := by decide +kernel
theorem dX3_joins_5 : decode cX3_joins 5 = .ok (.iload_n 1, 1) := by decide +kernel
theorem dX3_joins_6 : decode cX3_joins 6 = .ok (.iconst 3, 1) := by decide +kernel
theorem dX3_joins_7 : decode cX3_joins 7 = .ok (.if_icmp .ne 12, 3) := by decide +kernel
theorem dX3_joins_10 : decode cX3_joins 10 = .ok (.iload_n 0, 1) := by decide +kernel
theorem dX3_joins_11 : decode cX3_joins 11 = .ok (.iconst 1, 1) := by decide +kernel
theorem dX3_joins_12 : decode cX3_joins 12 = .ok (.if_icmp .ne 7, 3) := by decide +kernel
theorem dX3_joins_15 : decode cX3_joins 15 = .ok (.iconst 1, 1) := by decide +kernel
theorem dX3_joins_16 : decode cX3_joins 16 = .ok (.goto 4, 3) := by decide +kernel
theorem dX3_joins_19 : decode cX3_joins 19 = .ok (.iconst 0, 1) := by decide +kernel
theorem dX3_joins_20 : decode cX3_joins 20 = .ok (.ireturn, 1) := by decide +kernel
theorem dX3_sayAsCut_0 : decode cX3_sayAsCut 0 = .ok (.iconst 0, 1) := by decide +kernel
theorem dX3_sayAsCut_1 : decode cX3_sayAsCut 1 = .ok (.istore 4, 2) := by decide +kernel
theorem dX3_sayAsCut_3 : decode cX3_sayAsCut 3 = .ok (.iload 4, 2) := by decide +kernel
theorem dX3_sayAsCut_5 : decode cX3_sayAsCut 5 = .ok (.iconst 3, 1) := by decide +kernel
theorem dX3_sayAsCut_6 : decode cX3_sayAsCut 6 = .ok (.if_icmp .ge 107, 3) := by decide +kernel
theorem dX3_sayAsCut_9 : decode cX3_sayAsCut 9 = .ok (.aload_n 1, 1) := by decide +kernel
theorem dX3_sayAsCut_10 : decode cX3_sayAsCut 10 = .ok (.getfield 11, 3) := by decide +kernel
theorem dX3_sayAsCut_13 : decode cX3_sayAsCut 13 = .ok (.iload 4, 2) := by decide +kernel
theorem dX3_sayAsCut_15 : decode cX3_sayAsCut 15 = .ok (.aaload, 1) := by decide +kernel
theorem dX3_sayAsCut_16 : decode cX3_sayAsCut 16 = .ok (.astore 5, 2) := by decide +kernel
theorem dX3_sayAsCut_18 : decode cX3_sayAsCut 18 = .ok (.aload_n 2, 1) := by decide +kernel
theorem dX3_sayAsCut_19 : decode cX3_sayAsCut 19 = .ok (.getfield 11, 3) := by decide +kernel
theorem dX3_sayAsCut_22 : decode cX3_sayAsCut 22 = .ok (.iload 4, 2) := by decide +kernel
theorem dX3_sayAsCut_24 : decode cX3_sayAsCut 24 = .ok (.aaload, 1) := by decide +kernel
theorem dX3_sayAsCut_25 : decode cX3_sayAsCut 25 = .ok (.astore 6, 2) := by decide +kernel
theorem dX3_sayAsCut_27 : decode cX3_sayAsCut 27 = .ok (.iload 4, 2) := by decide +kernel
theorem dX3_sayAsCut_29 : decode cX3_sayAsCut 29 = .ok (.iconst 2, 1) := by decide +kernel
theorem dX3_sayAsCut_30 : decode cX3_sayAsCut 30 = .ok (.if_icmp .ne 29, 3) := by decide +kernel
theorem dX3_sayAsCut_33 : decode cX3_sayAsCut 33 = .ok (.iload_n 3, 1) := by decide +kernel
theorem dX3_sayAsCut_34 : decode cX3_sayAsCut 34 = .ok (.iconst 3, 1) := by decide +kernel
theorem dX3_sayAsCut_35 : decode cX3_sayAsCut 35 = .ok (.if_icmp .ne 24, 3) := by decide +kernel
theorem dX3_sayAsCut_38 : decode cX3_sayAsCut 38 = .ok (.aload_n 0, 1) := by decide +kernel
theorem dX3_sayAsCut_39 : decode cX3_sayAsCut 39 = .ok (.getfield 11, 3) := by decide +kernel
theorem dX3_sayAsCut_42 : decode cX3_sayAsCut 42 = .ok (.iload 4, 2) := by decide +kernel
theorem dX3_sayAsCut_44 : decode cX3_sayAsCut 44 = .ok (.aaload, 1) := by decide +kernel
theorem dX3_sayAsCut_45 : decode cX3_sayAsCut 45 = .ok (.aload_n 0, 1) := by decide +kernel
theorem dX3_sayAsCut_46 : decode cX3_sayAsCut 46 = .ok (.getfield 24, 3) := by decide +kernel
theorem dX3_sayAsCut_49 : decode cX3_sayAsCut 49 = .ok (.aload 6, 2) := by decide +kernel
theorem dX3_sayAsCut_51 : decode cX3_sayAsCut 51 = .ok (.aload 5, 2) := by decide +kernel
theorem dX3_sayAsCut_53 : decode cX3_sayAsCut 53 = .ok (.invokevirtual 60, 3) := by decide +kernel
theorem dX3_sayAsCut_56 : decode cX3_sayAsCut 56 = .ok (.goto 51, 3) := by decide +kernel
theorem dX3_sayAsCut_59 : decode cX3_sayAsCut 59 = .ok (.aload_n 0, 1) := by decide +kernel
theorem dX3_sayAsCut_60 : decode cX3_sayAsCut 60 = .ok (.getfield 11, 3) := by decide +kernel
theorem dX3_sayAsCut_63 : decode cX3_sayAsCut 63 = .ok (.iload 4, 2) := by decide +kernel
theorem dX3_sayAsCut_65 : decode cX3_sayAsCut 65 = .ok (.aaload, 1) := by decide +kernel
theorem dX3_sayAsCut_66 : decode cX3_sayAsCut 66 = .ok (.aload 5, 2) := by decide +kernel
theorem dX3_sayAsCut_68 : decode cX3_sayAsCut 68 = .ok (.invokevirtual 64, 3) := by decide +kernel
theorem dX3_sayAsCut_71 : decode cX3_sayAsCut 71 = .ok (.iload 4, 2) := by decide +kernel
theorem dX3_sayAsCut_73 : decode cX3_sayAsCut 73 = .ok (.iload_n 3, 1) := by decide +kernel
theorem dX3_sayAsCut_74 : decode cX3_sayAsCut 74 = .ok (.invokestatic 68, 3) := by decide +kernel
theorem dX3_sayAsCut_77 : decode cX3_sayAsCut 77 = .ok (.ifCond .eq 18, 3) := by decide +kernel
theorem dX3_sayAsCut_80 : decode cX3_sayAsCut 80 = .ok (.aload_n 0, 1) := by decide +kernel
theorem dX3_sayAsCut_81 : decode cX3_sayAsCut 81 = .ok (.getfield 11, 3) := by decide +kernel
theorem dX3_sayAsCut_84 : decode cX3_sayAsCut 84 = .ok (.iload 4, 2) := by decide +kernel
theorem dX3_sayAsCut_86 : decode cX3_sayAsCut 86 = .ok (.aaload, 1) := by decide +kernel
theorem dX3_sayAsCut_87 : decode cX3_sayAsCut 87 = .ok (.aload 6, 2) := by decide +kernel
theorem dX3_sayAsCut_89 : decode cX3_sayAsCut 89 = .ok (.invokevirtual 72, 3) := by decide +kernel
theorem dX3_sayAsCut_92 : decode cX3_sayAsCut 92 = .ok (.goto 15, 3) := by decide +kernel
theorem dX3_sayAsCut_95 : decode cX3_sayAsCut 95 = .ok (.aload_n 0, 1) := by decide +kernel
theorem dX3_sayAsCut_96 : decode cX3_sayAsCut 96 = .ok (.getfield 11, 3) := by decide +kernel
theorem dX3_sayAsCut_99 : decode cX3_sayAsCut 99 = .ok (.iload 4, 2) := by decide +kernel
theorem dX3_sayAsCut_101 : decode cX3_sayAsCut 101 = .ok (.aaload, 1) := by decide +kernel
theorem dX3_sayAsCut_102 : decode cX3_sayAsCut 102 = .ok (.aload 6, 2) := by decide +kernel
theorem dX3_sayAsCut_104 : decode cX3_sayAsCut 104 = .ok (.invokevirtual 75, 3) := by decide +kernel
theorem dX3_sayAsCut_107 : decode cX3_sayAsCut 107 = .ok (.iinc 4 1, 3) := by decide +kernel
theorem dX3_sayAsCut_110 : decode cX3_sayAsCut 110 = .ok (.goto (-107), 3) := by decide +kernel
theorem dX3_sayAsCut_113 : decode cX3_sayAsCut 113 = .ok (.return_, 1) := by decide +kernel
def bc32 (x : Int32) : Int32 := let x1 : Int32 := x - (((x.toUInt32 >>> ((1 : Int32).toUInt32 &&& Int32.toUInt32 31)).toInt32) &&& 1431655765); let x3 : Int32 := (x1 &&& 858993459) + (((x1.toUInt32 >>> ((2 : Int32).toUInt32 &&& Int32.toUInt32 31)).toInt32) &&& 858993459); let x5 : Int32 := (x3 + ((x3.toUInt32 >>> ((4 : Int32).toUInt32 &&& Int32.toUInt32 31)).toInt32)) &&& 252645135; let x7 : Int32 := x5 + ((x5.toUInt32 >>> ((8 : Int32).toUInt32 &&& Int32.toUInt32 31)).toInt32); let x9 : Int32 := x7 + ((x7.toUInt32 >>> ((16 : Int32).toUInt32 &&& Int32.toUInt32 31)).toInt32); x9 &&& 63
set_option maxRecDepth 20000 in
theorem s_J6_bitCount_0f7a4 {xs : Nat → Int32} {L d sz : Nat} {h : ev_H} {x : Int32}  : EV xs L (d + 0) 0 0 M_J6_bitCount_0f7a4 sz h 0 [some (.int x)] [] (fun sz' h' r => sz' = sz ∧ h' = h ∧ r = [.int (bc32 x)]) := by
  refine r_iload_n rfl dJ6_bitCount_0f7a4_0 rfl ?_
  refine r_iload_n rfl dJ6_bitCount_0f7a4_1 rfl ?_
  refine r_iconst (v := 1) rfl dJ6_bitCount_0f7a4_2 (by decide) ?_
  refine r_iushr rfl dJ6_bitCount_0f7a4_3 ?_
  refine r_ldcw (v := 1431655765) rfl dJ6_bitCount_0f7a4_4 lc_J6_265 ?_
  refine r_iand rfl dJ6_bitCount_0f7a4_7 ?_
  refine r_isub rfl dJ6_bitCount_0f7a4_8 ?_
  refine r_topi (fun x1 e2 => ?_)
  refine r_istore_n (ls' := [some (.int x1)]) rfl dJ6_bitCount_0f7a4_9 (Nat.le_of_ble_eq_true rfl) rfl ?_
  refine r_iload_n rfl dJ6_bitCount_0f7a4_10 rfl ?_
  refine r_ldcw (v := 858993459) rfl dJ6_bitCount_0f7a4_11 lc_J6_266 ?_
  refine r_iand rfl dJ6_bitCount_0f7a4_14 ?_
  refine r_iload_n rfl dJ6_bitCount_0f7a4_15 rfl ?_
  refine r_iconst (v := 2) rfl dJ6_bitCount_0f7a4_16 (by decide) ?_
  refine r_iushr rfl dJ6_bitCount_0f7a4_17 ?_
  refine r_ldcw (v := 858993459) rfl dJ6_bitCount_0f7a4_18 lc_J6_266 ?_
  refine r_iand rfl dJ6_bitCount_0f7a4_21 ?_
  refine r_iadd rfl dJ6_bitCount_0f7a4_22 ?_
  refine r_topi (fun x3 e4 => ?_)
  refine r_istore_n (ls' := [some (.int x3)]) rfl dJ6_bitCount_0f7a4_23 (Nat.le_of_ble_eq_true rfl) rfl ?_
  refine r_iload_n rfl dJ6_bitCount_0f7a4_24 rfl ?_
  refine r_iload_n rfl dJ6_bitCount_0f7a4_25 rfl ?_
  refine r_iconst (v := 4) rfl dJ6_bitCount_0f7a4_26 (by decide) ?_
  refine r_iushr rfl dJ6_bitCount_0f7a4_27 ?_
  refine r_iadd rfl dJ6_bitCount_0f7a4_28 ?_
  refine r_ldcw (v := 252645135) rfl dJ6_bitCount_0f7a4_29 lc_J6_267 ?_
  refine r_iand rfl dJ6_bitCount_0f7a4_32 ?_
  refine r_topi (fun x5 e6 => ?_)
  refine r_istore_n (ls' := [some (.int x5)]) rfl dJ6_bitCount_0f7a4_33 (Nat.le_of_ble_eq_true rfl) rfl ?_
  refine r_iload_n rfl dJ6_bitCount_0f7a4_34 rfl ?_
  refine r_iload_n rfl dJ6_bitCount_0f7a4_35 rfl ?_
  refine r_bipush (v := 8) rfl dJ6_bitCount_0f7a4_36 (by decide) ?_
  refine r_iushr rfl dJ6_bitCount_0f7a4_38 ?_
  refine r_iadd rfl dJ6_bitCount_0f7a4_39 ?_
  refine r_topi (fun x7 e8 => ?_)
  refine r_istore_n (ls' := [some (.int x7)]) rfl dJ6_bitCount_0f7a4_40 (Nat.le_of_ble_eq_true rfl) rfl ?_
  refine r_iload_n rfl dJ6_bitCount_0f7a4_41 rfl ?_
  refine r_iload_n rfl dJ6_bitCount_0f7a4_42 rfl ?_
  refine r_bipush (v := 16) rfl dJ6_bitCount_0f7a4_43 (by decide) ?_
  refine r_iushr rfl dJ6_bitCount_0f7a4_45 ?_
  refine r_iadd rfl dJ6_bitCount_0f7a4_46 ?_
  refine r_topi (fun x9 e10 => ?_)
  refine r_istore_n (ls' := [some (.int x9)]) rfl dJ6_bitCount_0f7a4_47 (Nat.le_of_ble_eq_true rfl) rfl ?_
  refine r_iload_n rfl dJ6_bitCount_0f7a4_48 rfl ?_
  refine r_bipush (v := 63) rfl dJ6_bitCount_0f7a4_49 (by decide) ?_
  refine r_iand rfl dJ6_bitCount_0f7a4_51 ?_
  subst e10
  subst e8
  subst e6
  subst e4
  subst e2
  exact r_ret dJ6_bitCount_0f7a4_52 (rt_i rfl) ⟨rfl, rfl, rfl⟩
set_option maxRecDepth 20000 in
theorem s_X3_property {xs : Nat → Int32} {L d : Nat} {h : ev_H} (hS : SH h) {i : Nat} (hi : i < 40) {w : Int32} : EV xs L (d + 0) 0 0 M_X3_property 434 h 0 [some (.ref (100 + 8 * i)), some (.int w)] [] (fun sz' h' r => ∃ x : Int32, r = [.int x]) := by
  refine r_iload_n rfl dX3_property_0 rfl ?_
  by_cases c51 : w.toInt < 0 ∨ 5 < w.toInt
  · refine r_swO (tgt := 70) dX3_property_1 rfl c51 ?_
    refine r_iconst (v := (-1)) rfl dX3_property_70 (by decide) ?_
    exact r_ret dX3_property_71 (rt_i rfl) ⟨_, rfl⟩
  · have c51a : ¬ w.toInt < 0 := fun z => c51 (Or.inl z)
    have c51b : ¬ 5 < w.toInt := fun z => c51 (Or.inr z)
    rcases (show w.toInt = 0 ∨ w.toInt = 1 ∨ w.toInt = 2 ∨ w.toInt = 3 ∨ w.toInt = 4 ∨ w.toInt = 5 by omega) with c51e | c51e | c51e | c51e | c51e | c51e
    · refine r_swI (off := 39) (tgt := 40) dX3_property_1 rfl c51a c51b (by rw [c51e]; rfl) ?_
      refine r_aload_n rfl dX3_property_40 rfl ?_
      obtain ⟨y53, y54, y55, y56, y57, y58, f52⟩ := hS.ln hi
      refine r_getv 1 rfl dX3_property_41 (show 2 ≤ 100 + 8 * i ∧ 100 + 8 * i < 434 by omega) f52 fl_X3_28 rfl ?_
      exact r_ret dX3_property_44 (rt_i rfl) ⟨_, rfl⟩
    · refine r_swI (off := 44) (tgt := 45) dX3_property_1 rfl c51a c51b (by rw [c51e]; rfl) ?_
      refine r_aload_n rfl dX3_property_45 rfl ?_
      obtain ⟨y60, y61, y62, y63, y64, y65, f59⟩ := hS.ln hi
      refine r_getv 2 rfl dX3_property_46 (show 2 ≤ 100 + 8 * i ∧ 100 + 8 * i < 434 by omega) f59 fl_X3_31 rfl ?_
      exact r_ret dX3_property_49 (rt_i rfl) ⟨_, rfl⟩
    · refine r_swI (off := 49) (tgt := 50) dX3_property_1 rfl c51a c51b (by rw [c51e]; rfl) ?_
      refine r_aload_n rfl dX3_property_50 rfl ?_
      obtain ⟨y67, y68, y69, y70, y71, y72, f66⟩ := hS.ln hi
      refine r_getv 3 rfl dX3_property_51 (show 2 ≤ 100 + 8 * i ∧ 100 + 8 * i < 434 by omega) f66 fl_X3_34 rfl ?_
      exact r_ret dX3_property_54 (rt_i rfl) ⟨_, rfl⟩
    · refine r_swI (off := 54) (tgt := 55) dX3_property_1 rfl c51a c51b (by rw [c51e]; rfl) ?_
      refine r_aload_n rfl dX3_property_55 rfl ?_
      obtain ⟨y74, y75, y76, y77, y78, y79, f73⟩ := hS.ln hi
      refine r_getv 4 rfl dX3_property_56 (show 2 ≤ 100 + 8 * i ∧ 100 + 8 * i < 434 by omega) f73 fl_X3_17 rfl ?_
      exact r_ret dX3_property_59 (rt_i rfl) ⟨_, rfl⟩
    · refine r_swI (off := 59) (tgt := 60) dX3_property_1 rfl c51a c51b (by rw [c51e]; rfl) ?_
      refine r_aload_n rfl dX3_property_60 rfl ?_
      obtain ⟨y81, y82, y83, y84, y85, y86, f80⟩ := hS.ln hi
      refine r_getv 5 rfl dX3_property_61 (show 2 ≤ 100 + 8 * i ∧ 100 + 8 * i < 434 by omega) f80 fl_X3_21 rfl ?_
      exact r_ret dX3_property_64 (rt_i rfl) ⟨_, rfl⟩
    · refine r_swI (off := 64) (tgt := 65) dX3_property_1 rfl c51a c51b (by rw [c51e]; rfl) ?_
      refine r_aload_n rfl dX3_property_65 rfl ?_
      obtain ⟨y88, y89, y90, y91, y92, y93, f87⟩ := hS.ln hi
      refine r_getv 6 rfl dX3_property_66 (show 2 ≤ 100 + 8 * i ∧ 100 + 8 * i < 434 by omega) f87 fl_X3_24 rfl ?_
      exact r_ret dX3_property_69 (rt_i rfl) ⟨_, rfl⟩
set_option maxRecDepth 20000 in
theorem s_X3_literals {xs : Nat → Int32} {L d : Nat} {h : ev_H} (hS : SH h) {i : Nat} (hi : i < 40)  : EV xs L (d + 1) 0 0 M_X3_literals 434 h 0 [some (.ref (100 + 8 * i))] [] (fun sz' h' r => ∃ x : Int32, r = [.int x]) := by
  refine r_aload_n rfl dX3_literals_0 rfl ?_
  obtain ⟨y52, y53, y54, y55, y56, y57, f51⟩ := hS.ln hi
  refine r_getv 1 rfl dX3_literals_1 (show 2 ≤ 100 + 8 * i ∧ 100 + 8 * i < 434 by omega) f51 fl_X3_28 rfl ?_
  refine cl_X3_37 rfl rfl dX3_literals_4 (Nat.le_of_ble_eq_true rfl) s_J6_bitCount_0f7a4 ?_
  rintro _ h58 _ ⟨rfl, e59, rfl⟩
  replace e59 := e59.symm
  subst e59
  refine r_aload_n rfl dX3_literals_7 rfl ?_
  refine r_getv 2 rfl dX3_literals_8 (show 2 ≤ 100 + 8 * i ∧ 100 + 8 * i < 434 by omega) f51 fl_X3_31 rfl ?_
  refine cl_X3_37 rfl rfl dX3_literals_11 (Nat.le_of_ble_eq_true rfl) s_J6_bitCount_0f7a4 ?_
  rintro _ h60 _ ⟨rfl, e61, rfl⟩
  replace e61 := e61.symm
  subst e61
  refine r_iadd rfl dX3_literals_14 ?_
  exact r_ret dX3_literals_15 (rt_i rfl) ⟨_, rfl⟩
set_option maxRecDepth 20000 in
theorem s_X3_letters {xs : Nat → Int32} {L d : Nat} {h : ev_H} (hS : SH h) {i : Nat} (hi : i < 40)  : EV xs L (d + 0) 0 0 M_X3_letters 434 h 0 [some (.ref (100 + 8 * i))] [] (fun sz' h' r => ∃ x : Int32, r = [.int x]) := by
  refine r_aload_n rfl dX3_letters_0 rfl ?_
  obtain ⟨y52, y53, y54, y55, y56, y57, f51⟩ := hS.ln hi
  refine r_getv 1 rfl dX3_letters_1 (show 2 ≤ 100 + 8 * i ∧ 100 + 8 * i < 434 by omega) f51 fl_X3_28 rfl ?_
  refine r_aload_n rfl dX3_letters_4 rfl ?_
  refine r_getv 2 rfl dX3_letters_5 (show 2 ≤ 100 + 8 * i ∧ 100 + 8 * i < 434 by omega) f51 fl_X3_31 rfl ?_
  refine r_ior rfl dX3_letters_8 ?_
  exact r_ret dX3_letters_9 (rt_i rfl) ⟨_, rfl⟩
set_option maxRecDepth 20000 in
theorem s_X3_isSoIn {xs : Nat → Int32} {L d : Nat} {h : ev_H} (hS : SH h) {i : Nat} (hi : i < 40) {w : Int32} : EV xs L (d + 0) 0 0 M_X3_isSoIn 434 h 0 [some (.ref (100 + 8 * i)), some (.int w)] [] (fun sz' h' r => ∃ x : Int32, r = [.int x]) := by
  refine r_aload_n rfl dX3_isSoIn_0 rfl ?_
  obtain ⟨y52, y53, y54, y55, y56, y57, f51⟩ := hS.ln hi
  refine r_getv 1 rfl dX3_isSoIn_1 (show 2 ≤ 100 + 8 * i ∧ 100 + 8 * i < 434 by omega) f51 fl_X3_28 rfl ?_
  refine r_iload_n rfl dX3_isSoIn_4 rfl ?_
  refine r_iand rfl dX3_isSoIn_5 ?_
  refine r_aload_n rfl dX3_isSoIn_6 rfl ?_
  refine r_getv 2 rfl dX3_isSoIn_7 (show 2 ≤ 100 + 8 * i ∧ 100 + 8 * i < 434 by omega) f51 fl_X3_31 rfl ?_
  refine r_iload_n rfl dX3_isSoIn_10 rfl ?_
  refine r_iconst (v := (-1)) rfl dX3_isSoIn_11 (by decide) ?_
  refine r_ixor rfl dX3_isSoIn_12 ?_
  refine r_iand rfl dX3_isSoIn_13 ?_
  refine r_ior rfl dX3_isSoIn_14 ?_
  refine r_if_eq (tgt := 22) rfl rfl dX3_isSoIn_15 (fun c58 => ?_) (fun c58 => ?_)
  · refine r_iconst (v := 0) rfl dX3_isSoIn_22 (by decide) ?_
    exact r_ret dX3_isSoIn_23 (rt_z rfl (Or.inl rfl)) ⟨_, rfl⟩
  · refine r_iconst (v := 1) rfl dX3_isSoIn_18 (by decide) ?_
    refine r_goto (pc' := 23) rfl dX3_isSoIn_19 ?_
    exact r_ret dX3_isSoIn_23 (rt_z rfl (Or.inr rfl)) ⟨_, rfl⟩
set_option maxRecDepth 20000 in
theorem s_X3_sayingBy {xs : Nat → Int32} {L d : Nat} {h : ev_H} (hS : SH h) {i : Nat} (hi : i < 40) {w : Int32} : EV xs L (d + 0) 0 0 M_X3_sayingBy 434 h 0 [some (.ref (100 + 8 * i)), some (.int w)] [] (fun sz' h' r => ∃ j, j < 3 ∧ r = [.ref (102 + 8 * i + 2 * j)]) := by
  refine r_aload_n rfl dX3_sayingBy_0 rfl ?_
  obtain ⟨y52, y53, y54, y55, y56, y57, f51⟩ := hS.ln hi
  refine r_getv 0 rfl dX3_sayingBy_1 (show 2 ≤ 100 + 8 * i ∧ 100 + 8 * i < 434 by omega) f51 fl_X3_11 rfl ?_
  refine r_iload_n rfl dX3_sayingBy_4 rfl ?_
  refine r_if_lt (tgt := 13) rfl rfl dX3_sayingBy_5 (fun c58 => ?_) (fun c58 => ?_)
  · refine r_iconst (v := 0) rfl dX3_sayingBy_13 (by decide) ?_
    refine r_goto (pc' := 18) rfl dX3_sayingBy_14 ?_
    refine r_aald (jn := 0) (v := .ref (102 + 8 * i + 2 * 0)) rfl dX3_sayingBy_18 (show 2 ≤ 101 + 8 * i ∧ 101 + 8 * i < 434 by omega).1 (show 2 ≤ 101 + 8 * i ∧ 101 + 8 * i < 434 by omega).2 (hS.say hi) (by decide) (by unfold vp_in; decide) rfl (by show va_rf (if _ < _ then _ else _) = _; rw [if_pos (show 0 < 3 by decide)]; rfl) ?_
    exact r_ret dX3_sayingBy_19 (rt_a rfl) ⟨_, (show 0 < 3 by decide), rfl⟩
  · refine r_iload_n rfl dX3_sayingBy_8 rfl ?_
    refine r_iconst (v := 3) rfl dX3_sayingBy_9 (by decide) ?_
    refine r_icmp_lt (tgt := 17) rfl rfl dX3_sayingBy_10 (fun c60 => ?_) (fun c60 => ?_)
    · refine r_iload_n rfl dX3_sayingBy_17 rfl ?_
      refine r_aald (jn := w.toNatClampNeg) (v := .ref (102 + 8 * i + 2 * w.toNatClampNeg)) rfl dX3_sayingBy_18 (show 2 ≤ 101 + 8 * i ∧ 101 + 8 * i < 434 by omega).1 (show 2 ≤ 101 + 8 * i ∧ 101 + 8 * i < 434 by omega).2 (hS.say hi) (by decide) (vpi2 (m := 3) (by decide) c58 c60) rfl (by show va_rf (if _ < _ then _ else _) = _; rw [if_pos (vp_in_lt (vpi2 (m := 3) (by decide) c58 c60))]; rfl) ?_
      exact r_ret dX3_sayingBy_19 (rt_a rfl) ⟨_, (vp_in_lt (vpi2 (m := 3) (by decide) c58 c60)), rfl⟩
    · refine r_iconst (v := 0) rfl dX3_sayingBy_13 (by decide) ?_
      refine r_goto (pc' := 18) rfl dX3_sayingBy_14 ?_
      refine r_aald (jn := 0) (v := .ref (102 + 8 * i + 2 * 0)) rfl dX3_sayingBy_18 (show 2 ≤ 101 + 8 * i ∧ 101 + 8 * i < 434 by omega).1 (show 2 ≤ 101 + 8 * i ∧ 101 + 8 * i < 434 by omega).2 (hS.say hi) (by decide) (by unfold vp_in; decide) rfl (by show va_rf (if _ < _ then _ else _) = _; rw [if_pos (show 0 < 3 by decide)]; rfl) ?_
      exact r_ret dX3_sayingBy_19 (rt_a rfl) ⟨_, (show 0 < 3 by decide), rfl⟩
set_option maxRecDepth 20000 in
theorem s_X3_gatherWorlds_loop {xs : Nat → Int32} {L d : Nat} {i a : Nat} {m : Int32} (hi : i < 40) (ha : wsAt a) : ∀ (n k : Nat), k + n = 8 → ∀ (h : ev_H) (hS : SH h) (u : Option Value) , EV xs L (d + 2) 0 0 M_X3_gatherWorlds 434 h 6 [some (.ref (100 + 8 * i)), some (.ref a), some (.int m), some (.int (nI k)), u] [] (fun sz' h' r => r = []) := by
  intro n
  induction n with
  | zero =>
    intro k hk h hS u
    obtain rfl : k = 8 := by omega
    refine r_iload_n rfl dX3_gatherWorlds_6 rfl ?_
    refine r_bipush (v := 8) rfl dX3_gatherWorlds_7 (by decide) ?_
    refine r_icmp_ge (tgt := 57) rfl rfl dX3_gatherWorlds_9 (fun _ => ?_) (fun c => absurd c (by decide))
    exact r_ret dX3_gatherWorlds_57 (rt_v rfl) rfl
  | succ n ih =>
    intro k hk h hS u
    refine r_iload_n rfl dX3_gatherWorlds_6 rfl ?_
    refine r_bipush (v := 8) rfl dX3_gatherWorlds_7 (by decide) ?_
    refine r_icmp_ge (tgt := 57) rfl rfl dX3_gatherWorlds_9 (fun c => absurd c (show ¬ (8 : Int32) ≤ nI k from nI_ge (a := k) (b := 8) (by omega) (by decide))) (fun _ => ?_)
    refine r_iconst (v := 1) rfl dX3_gatherWorlds_12 (by decide) ?_
    refine r_iload_n rfl dX3_gatherWorlds_13 rfl ?_
    refine r_ishl rfl dX3_gatherWorlds_14 ?_
    refine r_iload_n rfl dX3_gatherWorlds_15 rfl ?_
    refine r_iand rfl dX3_gatherWorlds_16 ?_
    refine r_topi (fun x601 e602 => ?_)
    refine r_istore (ls' := [some (.ref (100 + 8 * i)), some (.ref a), some (.int m), some (.int (nI k)), some (.int x601)]) rfl dX3_gatherWorlds_17 (Nat.le_of_ble_eq_true rfl) rfl ?_
    refine r_aload_n rfl dX3_gatherWorlds_19 rfl ?_
    obtain ⟨y604, y605, y606, y607, y608, y609, f603⟩ := hS.ln hi
    refine r_getv 1 rfl dX3_gatherWorlds_20 (show 2 ≤ 100 + 8 * i ∧ 100 + 8 * i < 434 by omega) f603 fl_X3_28 rfl ?_
    refine r_iload rfl dX3_gatherWorlds_23 rfl ?_
    refine r_iand rfl dX3_gatherWorlds_25 ?_
    refine r_if_eq (tgt := 35) rfl rfl dX3_gatherWorlds_26 (fun c610 => ?_) (fun c610 => ?_)
    · refine r_aload_n rfl dX3_gatherWorlds_35 rfl ?_
      refine r_getv 2 rfl dX3_gatherWorlds_36 (show 2 ≤ 100 + 8 * i ∧ 100 + 8 * i < 434 by omega) f603 fl_X3_31 rfl ?_
      refine r_iload rfl dX3_gatherWorlds_39 rfl ?_
      refine r_iand rfl dX3_gatherWorlds_41 ?_
      refine r_if_eq (tgt := 51) rfl rfl dX3_gatherWorlds_42 (fun c611 => ?_) (fun c611 => ?_)
      · obtain ⟨x612, e613⟩ : ∃ z : Int32, z = (nI k) + Int32.ofInt 1 := ⟨_, rfl⟩
        refine r_iinc (y := x612) (ls' := [some (.ref (100 + 8 * i)), some (.ref a), some (.int m), some (.int x612), some (.int x601)]) rfl dX3_gatherWorlds_51 rfl e613.symm (Nat.le_of_ble_eq_true rfl) rfl ?_
        refine r_goto (pc' := 6) rfl dX3_gatherWorlds_54 ?_
        have z614 : x612 = nI (k + 1) := by rw [e613]; exact nI_1 k
        subst z614
        exact ih (k + 1) (by omega) h hS (some (.int x601))
      · refine r_aload_n rfl dX3_gatherWorlds_45 rfl ?_
        refine r_iload_n rfl dX3_gatherWorlds_46 rfl ?_
        refine r_iconst (v := 0) rfl dX3_gatherWorlds_47 (by decide) ?_
        obtain ⟨g616, hw617⟩ := hS.ws ha
        refine cl_X3_46 rfl rfl dX3_gatherWorlds_48 (show _ ∧ _ from ⟨ha.2.2.1, Nat.lt_of_succ_lt ha.2.2.2⟩).1 (show _ ∧ _ from ⟨ha.2.2.1, Nat.lt_of_succ_lt ha.2.2.2⟩).2 hw617.2.2.1 (Nat.le_of_ble_eq_true rfl) ((s_X10_joinWhere hw617).sh hS) ?_
        rintro _ h618 _ ⟨⟨rfl, -, rfl⟩, -, hS619, -⟩
        obtain ⟨x620, e621⟩ : ∃ z : Int32, z = (nI k) + Int32.ofInt 1 := ⟨_, rfl⟩
        refine r_iinc (y := x620) (ls' := [some (.ref (100 + 8 * i)), some (.ref a), some (.int m), some (.int x620), some (.int x601)]) rfl dX3_gatherWorlds_51 rfl e621.symm (Nat.le_of_ble_eq_true rfl) rfl ?_
        refine r_goto (pc' := 6) rfl dX3_gatherWorlds_54 ?_
        have z622 : x620 = nI (k + 1) := by rw [e621]; exact nI_1 k
        subst z622
        exact ih (k + 1) (by omega) h618 hS619 (some (.int x601))
    · refine r_aload_n rfl dX3_gatherWorlds_29 rfl ?_
      refine r_iload_n rfl dX3_gatherWorlds_30 rfl ?_
      refine r_iconst (v := 1) rfl dX3_gatherWorlds_31 (by decide) ?_
      obtain ⟨g624, hw625⟩ := hS.ws ha
      refine cl_X3_46 rfl rfl dX3_gatherWorlds_32 (show _ ∧ _ from ⟨ha.2.2.1, Nat.lt_of_succ_lt ha.2.2.2⟩).1 (show _ ∧ _ from ⟨ha.2.2.1, Nat.lt_of_succ_lt ha.2.2.2⟩).2 hw625.2.2.1 (Nat.le_of_ble_eq_true rfl) ((s_X10_joinWhere hw625).sh hS) ?_
      rintro _ h626 _ ⟨⟨rfl, -, rfl⟩, -, hS627, -⟩
      refine r_aload_n rfl dX3_gatherWorlds_35 rfl ?_
      obtain ⟨y629, y630, y631, y632, y633, y634, f628⟩ := hS627.ln hi
      refine r_getv 2 rfl dX3_gatherWorlds_36 (show 2 ≤ 100 + 8 * i ∧ 100 + 8 * i < 434 by omega) f628 fl_X3_31 rfl ?_
      refine r_iload rfl dX3_gatherWorlds_39 rfl ?_
      refine r_iand rfl dX3_gatherWorlds_41 ?_
      refine r_if_eq (tgt := 51) rfl rfl dX3_gatherWorlds_42 (fun c635 => ?_) (fun c635 => ?_)
      · obtain ⟨x636, e637⟩ : ∃ z : Int32, z = (nI k) + Int32.ofInt 1 := ⟨_, rfl⟩
        refine r_iinc (y := x636) (ls' := [some (.ref (100 + 8 * i)), some (.ref a), some (.int m), some (.int x636), some (.int x601)]) rfl dX3_gatherWorlds_51 rfl e637.symm (Nat.le_of_ble_eq_true rfl) rfl ?_
        refine r_goto (pc' := 6) rfl dX3_gatherWorlds_54 ?_
        have z638 : x636 = nI (k + 1) := by rw [e637]; exact nI_1 k
        subst z638
        exact ih (k + 1) (by omega) h626 hS627 (some (.int x601))
      · refine r_aload_n rfl dX3_gatherWorlds_45 rfl ?_
        refine r_iload_n rfl dX3_gatherWorlds_46 rfl ?_
        refine r_iconst (v := 0) rfl dX3_gatherWorlds_47 (by decide) ?_
        obtain ⟨g640, hw641⟩ := hS627.ws ha
        refine cl_X3_46 rfl rfl dX3_gatherWorlds_48 (show _ ∧ _ from ⟨ha.2.2.1, Nat.lt_of_succ_lt ha.2.2.2⟩).1 (show _ ∧ _ from ⟨ha.2.2.1, Nat.lt_of_succ_lt ha.2.2.2⟩).2 hw641.2.2.1 (Nat.le_of_ble_eq_true rfl) ((s_X10_joinWhere hw641).sh hS627) ?_
        rintro _ h642 _ ⟨⟨rfl, -, rfl⟩, -, hS643, -⟩
        obtain ⟨x644, e645⟩ : ∃ z : Int32, z = (nI k) + Int32.ofInt 1 := ⟨_, rfl⟩
        refine r_iinc (y := x644) (ls' := [some (.ref (100 + 8 * i)), some (.ref a), some (.int m), some (.int x644), some (.int x601)]) rfl dX3_gatherWorlds_51 rfl e645.symm (Nat.le_of_ble_eq_true rfl) rfl ?_
        refine r_goto (pc' := 6) rfl dX3_gatherWorlds_54 ?_
        have z646 : x644 = nI (k + 1) := by rw [e645]; exact nI_1 k
        subst z646
        exact ih (k + 1) (by omega) h642 hS643 (some (.int x601))
set_option maxRecDepth 20000 in
theorem s_X3_gatherWorlds {xs : Nat → Int32} {L d : Nat} {h : ev_H} (hS : SH h) {i a : Nat} {m : Int32} (hi : i < 40) (ha : wsAt a)  : EV xs L (d + 2) 0 0 M_X3_gatherWorlds 434 h 0 [some (.ref (100 + 8 * i)), some (.ref a), some (.int m), none, none] [] (fun sz' h' r => r = []) := by
  refine r_aload_n rfl dX3_gatherWorlds_0 rfl ?_
  obtain ⟨g52, hw53⟩ := hS.ws ha
  refine cl_X3_43 rfl rfl dX3_gatherWorlds_1 (show _ ∧ _ from ⟨ha.2.2.1, Nat.lt_of_succ_lt ha.2.2.2⟩).1 (show _ ∧ _ from ⟨ha.2.2.1, Nat.lt_of_succ_lt ha.2.2.2⟩).2 hw53.2.2.1 (Nat.le_of_ble_eq_true rfl) ((s_X10_wipe hw53).sh hS) ?_
  rintro _ h54 _ ⟨⟨rfl, -, rfl⟩, -, hS55, -⟩
  refine r_iconst (v := 0) rfl dX3_gatherWorlds_4 (by decide) ?_
  refine r_istore_n (ls' := [some (.ref (100 + 8 * i)), some (.ref a), some (.int m), some (.int 0), none]) rfl dX3_gatherWorlds_5 (Nat.le_of_ble_eq_true rfl) rfl ?_
  exact s_X3_gatherWorlds_loop hi ha 8 0 rfl h54 hS55 none
set_option maxRecDepth 20000 in
theorem s_X3_becomeClause {xs : Nat → Int32} {L d : Nat} {h : ev_H} (hS : SH h) {i : Nat} (hi : i < 40) {o p t : Int32} : EV xs L (d + 0) 0 0 M_X3_becomeClause 434 h 0 [some (.ref (100 + 8 * i)), some (.int o), some (.int p), some (.int t)] [] (fun sz' h' r => r = []) := by
  refine r_aload_n rfl dX3_becomeClause_0 rfl ?_
  refine r_iload_n rfl dX3_becomeClause_1 rfl ?_
  obtain ⟨y52, y53, y54, y55, y56, y57, f51⟩ := hS.ln hi
  refine k_put 1 rfl dX3_becomeClause_2 (show 2 ≤ 100 + 8 * i ∧ 100 + 8 * i < 434 by omega) hS f51 (fp_X3_28 rfl _) (Nat.le_of_ble_eq_true rfl) (fun h58 hS59 => ?_)
  refine r_aload_n rfl dX3_becomeClause_5 rfl ?_
  refine r_iload_n rfl dX3_becomeClause_6 rfl ?_
  obtain ⟨y61, y62, y63, y64, y65, y66, f60⟩ := hS59.ln hi
  refine k_put 2 rfl dX3_becomeClause_7 (show 2 ≤ 100 + 8 * i ∧ 100 + 8 * i < 434 by omega) hS59 f60 (fp_X3_31 rfl _) (Nat.le_of_ble_eq_true rfl) (fun h67 hS68 => ?_)
  refine r_aload_n rfl dX3_becomeClause_10 rfl ?_
  refine r_iload_n rfl dX3_becomeClause_11 rfl ?_
  obtain ⟨y70, y71, y72, y73, y74, y75, f69⟩ := hS68.ln hi
  refine k_put 3 rfl dX3_becomeClause_12 (show 2 ≤ 100 + 8 * i ∧ 100 + 8 * i < 434 by omega) hS68 f69 (fp_X3_34 rfl _) (Nat.le_of_ble_eq_true rfl) (fun h76 hS77 => ?_)
  refine r_aload_n rfl dX3_becomeClause_15 rfl ?_
  refine r_bipush (v := (-9)) rfl dX3_becomeClause_16 (by decide) ?_
  obtain ⟨y79, y80, y81, y82, y83, y84, f78⟩ := hS77.ln hi
  refine k_put 4 rfl dX3_becomeClause_18 (show 2 ≤ 100 + 8 * i ∧ 100 + 8 * i < 434 by omega) hS77 f78 (fp_X3_17 rfl _) (Nat.le_of_ble_eq_true rfl) (fun h85 hS86 => ?_)
  refine r_aload_n rfl dX3_becomeClause_21 rfl ?_
  refine r_bipush (v := (-9)) rfl dX3_becomeClause_22 (by decide) ?_
  obtain ⟨y88, y89, y90, y91, y92, y93, f87⟩ := hS86.ln hi
  refine k_put 5 rfl dX3_becomeClause_24 (show 2 ≤ 100 + 8 * i ∧ 100 + 8 * i < 434 by omega) hS86 f87 (fp_X3_21 rfl _) (Nat.le_of_ble_eq_true rfl) (fun h94 hS95 => ?_)
  refine r_aload_n rfl dX3_becomeClause_27 rfl ?_
  refine r_bipush (v := (-9)) rfl dX3_becomeClause_28 (by decide) ?_
  obtain ⟨y97, y98, y99, y100, y101, y102, f96⟩ := hS95.ln hi
  refine k_put 6 rfl dX3_becomeClause_30 (show 2 ≤ 100 + 8 * i ∧ 100 + 8 * i < 434 by omega) hS95 f96 (fp_X3_24 rfl _) (Nat.le_of_ble_eq_true rfl) (fun h103 hS104 => ?_)
  exact r_ret dX3_becomeClause_33 (rt_v rfl) rfl
set_option maxRecDepth 20000 in
theorem s_X3_rememberCut {xs : Nat → Int32} {L d : Nat} {h : ev_H} (hS : SH h) {i : Nat} (hi : i < 40) {o p t : Int32} : EV xs L (d + 0) 0 0 M_X3_rememberCut 434 h 0 [some (.ref (100 + 8 * i)), some (.int o), some (.int p), some (.int t)] [] (fun sz' h' r => r = []) := by
  refine r_aload_n rfl dX3_rememberCut_0 rfl ?_
  refine r_iconst (v := 0) rfl dX3_rememberCut_1 (by decide) ?_
  obtain ⟨y52, y53, y54, y55, y56, y57, f51⟩ := hS.ln hi
  refine k_put 3 rfl dX3_rememberCut_2 (show 2 ≤ 100 + 8 * i ∧ 100 + 8 * i < 434 by omega) hS f51 (fp_X3_34 rfl _) (Nat.le_of_ble_eq_true rfl) (fun h58 hS59 => ?_)
  refine r_aload_n rfl dX3_rememberCut_5 rfl ?_
  refine r_iload_n rfl dX3_rememberCut_6 rfl ?_
  obtain ⟨y61, y62, y63, y64, y65, y66, f60⟩ := hS59.ln hi
  refine k_put 4 rfl dX3_rememberCut_7 (show 2 ≤ 100 + 8 * i ∧ 100 + 8 * i < 434 by omega) hS59 f60 (fp_X3_17 rfl _) (Nat.le_of_ble_eq_true rfl) (fun h67 hS68 => ?_)
  refine r_aload_n rfl dX3_rememberCut_10 rfl ?_
  refine r_iload_n rfl dX3_rememberCut_11 rfl ?_
  obtain ⟨y70, y71, y72, y73, y74, y75, f69⟩ := hS68.ln hi
  refine k_put 5 rfl dX3_rememberCut_12 (show 2 ≤ 100 + 8 * i ∧ 100 + 8 * i < 434 by omega) hS68 f69 (fp_X3_21 rfl _) (Nat.le_of_ble_eq_true rfl) (fun h76 hS77 => ?_)
  refine r_aload_n rfl dX3_rememberCut_15 rfl ?_
  refine r_iload_n rfl dX3_rememberCut_16 rfl ?_
  obtain ⟨y79, y80, y81, y82, y83, y84, f78⟩ := hS77.ln hi
  refine k_put 6 rfl dX3_rememberCut_17 (show 2 ≤ 100 + 8 * i ∧ 100 + 8 * i < 434 by omega) hS77 f78 (fp_X3_24 rfl _) (Nat.le_of_ble_eq_true rfl) (fun h85 hS86 => ?_)
  exact r_ret dX3_rememberCut_20 (rt_v rfl) rfl
set_option maxRecDepth 20000 in
theorem s_X3_sayAsClause {xs : Nat → Int32} {L d : Nat} {h : ev_H} (hS : SH h) {i : Nat} (hi : i < 40) {m : Int32} : EV xs L (d + 3) 0 0 M_X3_sayAsClause 434 h 0 [some (.ref (100 + 8 * i)), some (.int m)] [] (fun sz' h' r => r = []) := by
  refine r_aload_n rfl dX3_sayAsClause_0 rfl ?_
  obtain ⟨y52, y53, y54, y55, y56, y57, f51⟩ := hS.ln hi
  refine r_getv 3 rfl dX3_sayAsClause_1 (show 2 ≤ 100 + 8 * i ∧ 100 + 8 * i < 434 by omega) f51 fl_X3_34 rfl ?_
  refine r_iconst (v := 1) rfl dX3_sayAsClause_4 (by decide) ?_
  refine r_icmp_ne (tgt := 40) rfl rfl dX3_sayAsClause_5 (fun c58 => ?_) (fun c58 => ?_)
  · refine r_aload_n rfl dX3_sayAsClause_40 rfl ?_
    refine r_getv 0 rfl dX3_sayAsClause_41 (show 2 ≤ 100 + 8 * i ∧ 100 + 8 * i < 434 by omega) f51 fl_X3_11 rfl ?_
    refine r_iconst (v := 0) rfl dX3_sayAsClause_44 (by decide) ?_
    refine r_aald (jn := 0) (v := .ref (102 + 8 * i + 2 * 0)) rfl dX3_sayAsClause_45 (show 2 ≤ 101 + 8 * i ∧ 101 + 8 * i < 434 by omega).1 (show 2 ≤ 101 + 8 * i ∧ 101 + 8 * i < 434 by omega).2 (hS.say hi) (by decide) (by unfold vp_in; decide) rfl (by show va_rf (if _ < _ then _ else _) = _; rw [if_pos (show 0 < 3 by decide)]; rfl) ?_
    obtain ⟨g61, hw62⟩ := hS.ws (wsAt_ln hi (w := 0) (show 0 < 3 by decide))
    refine cl_X3_54 rfl rfl dX3_sayAsClause_46 (show _ ∧ _ from ⟨(wsAt_ln hi (w := 0) (show 0 < 3 by decide)).2.2.1, Nat.lt_of_succ_lt (wsAt_ln hi (w := 0) (show 0 < 3 by decide)).2.2.2⟩).1 (show _ ∧ _ from ⟨(wsAt_ln hi (w := 0) (show 0 < 3 by decide)).2.2.1, Nat.lt_of_succ_lt (wsAt_ln hi (w := 0) (show 0 < 3 by decide)).2.2.2⟩).2 hw62.2.2.1 (Nat.le_of_ble_eq_true rfl) ((s_X10_fill hw62).sh hS) ?_
    rintro _ h63 _ ⟨⟨rfl, -, rfl⟩, -, hS64, -⟩
    refine r_aload_n rfl dX3_sayAsClause_49 rfl ?_
    refine r_aload_n rfl dX3_sayAsClause_50 rfl ?_
    obtain ⟨y66, y67, y68, y69, y70, y71, f65⟩ := hS64.ln hi
    refine r_getv 0 rfl dX3_sayAsClause_51 (show 2 ≤ 100 + 8 * i ∧ 100 + 8 * i < 434 by omega) f65 fl_X3_11 rfl ?_
    refine r_iconst (v := 1) rfl dX3_sayAsClause_54 (by decide) ?_
    refine r_aald (jn := 1) (v := .ref (102 + 8 * i + 2 * 1)) rfl dX3_sayAsClause_55 (show 2 ≤ 101 + 8 * i ∧ 101 + 8 * i < 434 by omega).1 (show 2 ≤ 101 + 8 * i ∧ 101 + 8 * i < 434 by omega).2 (hS64.say hi) (by decide) (by unfold vp_in; decide) rfl (by show va_rf (if _ < _ then _ else _) = _; rw [if_pos (show 1 < 3 by decide)]; rfl) ?_
    refine r_iload_n rfl dX3_sayAsClause_56 rfl ?_
    refine cl_X3_50 rfl rfl dX3_sayAsClause_57 (show 2 ≤ 100 + 8 * i ∧ 100 + 8 * i < 434 by omega).1 (show 2 ≤ 100 + 8 * i ∧ 100 + 8 * i < 434 by omega).2 f65 (Nat.le_of_ble_eq_true rfl) ((s_X3_gatherWorlds hS64 hi (wsAt_ln hi (w := 1) (show 1 < 3 by decide))).sh hS64) ?_
    rintro _ h73 _ ⟨rfl, rfl, hS74, _⟩
    refine r_aload_n rfl dX3_sayAsClause_60 rfl ?_
    obtain ⟨y76, y77, y78, y79, y80, y81, f75⟩ := hS74.ln hi
    refine r_getv 0 rfl dX3_sayAsClause_61 (show 2 ≤ 100 + 8 * i ∧ 100 + 8 * i < 434 by omega) f75 fl_X3_11 rfl ?_
    refine r_iconst (v := 1) rfl dX3_sayAsClause_64 (by decide) ?_
    refine r_aald (jn := 1) (v := .ref (102 + 8 * i + 2 * 1)) rfl dX3_sayAsClause_65 (show 2 ≤ 101 + 8 * i ∧ 101 + 8 * i < 434 by omega).1 (show 2 ≤ 101 + 8 * i ∧ 101 + 8 * i < 434 by omega).2 (hS74.say hi) (by decide) (by unfold vp_in; decide) rfl (by show va_rf (if _ < _ then _ else _) = _; rw [if_pos (show 1 < 3 by decide)]; rfl) ?_
    obtain ⟨g84, hw85⟩ := hS74.ws (wsAt_ln hi (w := 1) (show 1 < 3 by decide))
    refine cl_X3_57 rfl rfl dX3_sayAsClause_66 (show _ ∧ _ from ⟨(wsAt_ln hi (w := 1) (show 1 < 3 by decide)).2.2.1, Nat.lt_of_succ_lt (wsAt_ln hi (w := 1) (show 1 < 3 by decide)).2.2.2⟩).1 (show _ ∧ _ from ⟨(wsAt_ln hi (w := 1) (show 1 < 3 by decide)).2.2.1, Nat.lt_of_succ_lt (wsAt_ln hi (w := 1) (show 1 < 3 by decide)).2.2.2⟩).2 hw85.2.2.1 (Nat.le_of_ble_eq_true rfl) ((s_X10_turn hw85).sh hS74) ?_
    rintro _ h86 _ ⟨⟨rfl, -, rfl⟩, -, hS87, -⟩
    refine r_aload_n rfl dX3_sayAsClause_69 rfl ?_
    obtain ⟨y89, y90, y91, y92, y93, y94, f88⟩ := hS87.ln hi
    refine r_getv 0 rfl dX3_sayAsClause_70 (show 2 ≤ 100 + 8 * i ∧ 100 + 8 * i < 434 by omega) f88 fl_X3_11 rfl ?_
    refine r_iconst (v := 2) rfl dX3_sayAsClause_73 (by decide) ?_
    refine r_aald (jn := 2) (v := .ref (102 + 8 * i + 2 * 2)) rfl dX3_sayAsClause_74 (show 2 ≤ 101 + 8 * i ∧ 101 + 8 * i < 434 by omega).1 (show 2 ≤ 101 + 8 * i ∧ 101 + 8 * i < 434 by omega).2 (hS87.say hi) (by decide) (by unfold vp_in; decide) rfl (by show va_rf (if _ < _ then _ else _) = _; rw [if_pos (show 2 < 3 by decide)]; rfl) ?_
    obtain ⟨g97, hw98⟩ := hS87.ws (wsAt_ln hi (w := 2) (show 2 < 3 by decide))
    refine cl_X3_54 rfl rfl dX3_sayAsClause_75 (show _ ∧ _ from ⟨(wsAt_ln hi (w := 2) (show 2 < 3 by decide)).2.2.1, Nat.lt_of_succ_lt (wsAt_ln hi (w := 2) (show 2 < 3 by decide)).2.2.2⟩).1 (show _ ∧ _ from ⟨(wsAt_ln hi (w := 2) (show 2 < 3 by decide)).2.2.1, Nat.lt_of_succ_lt (wsAt_ln hi (w := 2) (show 2 < 3 by decide)).2.2.2⟩).2 hw98.2.2.1 (Nat.le_of_ble_eq_true rfl) ((s_X10_fill hw98).sh hS87) ?_
    rintro _ h99 _ ⟨⟨rfl, -, rfl⟩, -, hS100, -⟩
    exact r_ret dX3_sayAsClause_78 (rt_v rfl) rfl
  · refine r_aload_n rfl dX3_sayAsClause_8 rfl ?_
    refine r_aload_n rfl dX3_sayAsClause_9 rfl ?_
    refine r_getv 0 rfl dX3_sayAsClause_10 (show 2 ≤ 100 + 8 * i ∧ 100 + 8 * i < 434 by omega) f51 fl_X3_11 rfl ?_
    refine r_iconst (v := 0) rfl dX3_sayAsClause_13 (by decide) ?_
    refine r_aald (jn := 0) (v := .ref (102 + 8 * i + 2 * 0)) rfl dX3_sayAsClause_14 (show 2 ≤ 101 + 8 * i ∧ 101 + 8 * i < 434 by omega).1 (show 2 ≤ 101 + 8 * i ∧ 101 + 8 * i < 434 by omega).2 (hS.say hi) (by decide) (by unfold vp_in; decide) rfl (by show va_rf (if _ < _ then _ else _) = _; rw [if_pos (show 0 < 3 by decide)]; rfl) ?_
    refine r_iload_n rfl dX3_sayAsClause_15 rfl ?_
    refine cl_X3_50 rfl rfl dX3_sayAsClause_16 (show 2 ≤ 100 + 8 * i ∧ 100 + 8 * i < 434 by omega).1 (show 2 ≤ 100 + 8 * i ∧ 100 + 8 * i < 434 by omega).2 f51 (Nat.le_of_ble_eq_true rfl) ((s_X3_gatherWorlds hS hi (wsAt_ln hi (w := 0) (show 0 < 3 by decide))).sh hS) ?_
    rintro _ h102 _ ⟨rfl, rfl, hS103, _⟩
    refine r_aload_n rfl dX3_sayAsClause_19 rfl ?_
    obtain ⟨y105, y106, y107, y108, y109, y110, f104⟩ := hS103.ln hi
    refine r_getv 0 rfl dX3_sayAsClause_20 (show 2 ≤ 100 + 8 * i ∧ 100 + 8 * i < 434 by omega) f104 fl_X3_11 rfl ?_
    refine r_iconst (v := 1) rfl dX3_sayAsClause_23 (by decide) ?_
    refine r_aald (jn := 1) (v := .ref (102 + 8 * i + 2 * 1)) rfl dX3_sayAsClause_24 (show 2 ≤ 101 + 8 * i ∧ 101 + 8 * i < 434 by omega).1 (show 2 ≤ 101 + 8 * i ∧ 101 + 8 * i < 434 by omega).2 (hS103.say hi) (by decide) (by unfold vp_in; decide) rfl (by show va_rf (if _ < _ then _ else _) = _; rw [if_pos (show 1 < 3 by decide)]; rfl) ?_
    obtain ⟨g113, hw114⟩ := hS103.ws (wsAt_ln hi (w := 1) (show 1 < 3 by decide))
    refine cl_X3_43 rfl rfl dX3_sayAsClause_25 (show _ ∧ _ from ⟨(wsAt_ln hi (w := 1) (show 1 < 3 by decide)).2.2.1, Nat.lt_of_succ_lt (wsAt_ln hi (w := 1) (show 1 < 3 by decide)).2.2.2⟩).1 (show _ ∧ _ from ⟨(wsAt_ln hi (w := 1) (show 1 < 3 by decide)).2.2.1, Nat.lt_of_succ_lt (wsAt_ln hi (w := 1) (show 1 < 3 by decide)).2.2.2⟩).2 hw114.2.2.1 (Nat.le_of_ble_eq_true rfl) ((s_X10_wipe hw114).sh hS103) ?_
    rintro _ h115 _ ⟨⟨rfl, -, rfl⟩, -, hS116, -⟩
    refine r_aload_n rfl dX3_sayAsClause_28 rfl ?_
    obtain ⟨y118, y119, y120, y121, y122, y123, f117⟩ := hS116.ln hi
    refine r_getv 0 rfl dX3_sayAsClause_29 (show 2 ≤ 100 + 8 * i ∧ 100 + 8 * i < 434 by omega) f117 fl_X3_11 rfl ?_
    refine r_iconst (v := 2) rfl dX3_sayAsClause_32 (by decide) ?_
    refine r_aald (jn := 2) (v := .ref (102 + 8 * i + 2 * 2)) rfl dX3_sayAsClause_33 (show 2 ≤ 101 + 8 * i ∧ 101 + 8 * i < 434 by omega).1 (show 2 ≤ 101 + 8 * i ∧ 101 + 8 * i < 434 by omega).2 (hS116.say hi) (by decide) (by unfold vp_in; decide) rfl (by show va_rf (if _ < _ then _ else _) = _; rw [if_pos (show 2 < 3 by decide)]; rfl) ?_
    obtain ⟨g126, hw127⟩ := hS116.ws (wsAt_ln hi (w := 2) (show 2 < 3 by decide))
    refine cl_X3_43 rfl rfl dX3_sayAsClause_34 (show _ ∧ _ from ⟨(wsAt_ln hi (w := 2) (show 2 < 3 by decide)).2.2.1, Nat.lt_of_succ_lt (wsAt_ln hi (w := 2) (show 2 < 3 by decide)).2.2.2⟩).1 (show _ ∧ _ from ⟨(wsAt_ln hi (w := 2) (show 2 < 3 by decide)).2.2.1, Nat.lt_of_succ_lt (wsAt_ln hi (w := 2) (show 2 < 3 by decide)).2.2.2⟩).2 hw127.2.2.1 (Nat.le_of_ble_eq_true rfl) ((s_X10_wipe hw127).sh hS116) ?_
    rintro _ h128 _ ⟨⟨rfl, -, rfl⟩, -, hS129, -⟩
    refine r_goto (pc' := 78) rfl dX3_sayAsClause_37 ?_
    exact r_ret dX3_sayAsClause_78 (rt_v rfl) rfl
set_option maxRecDepth 20000 in
theorem s_X3_becomeCut {xs : Nat → Int32} {L d : Nat} {h : ev_H} (hS : SH h) {i j l : Nat} (hi : i < 40) (hj : j < 40) (hl : l < 40) {c : Int32} : EV xs L (d + 0) 0 0 M_X3_becomeCut 434 h 0 [some (.ref (100 + 8 * i)), some (.ref (100 + 8 * j)), some (.ref (100 + 8 * l)), some (.int c), none, none, none] [] (fun sz' h' r => ∃ x : Int32, r = [.int x]) := by
  refine r_iconst (v := 1) rfl dX3_becomeCut_0 (by decide) ?_
  refine r_iload_n rfl dX3_becomeCut_1 rfl ?_
  refine r_ishl rfl dX3_becomeCut_2 ?_
  refine r_topi (fun x51 e52 => ?_)
  refine r_istore (ls' := [some (.ref (100 + 8 * i)), some (.ref (100 + 8 * j)), some (.ref (100 + 8 * l)), some (.int c), some (.int x51), none, none]) rfl dX3_becomeCut_3 (Nat.le_of_ble_eq_true rfl) rfl ?_
  refine r_aload_n rfl dX3_becomeCut_5 rfl ?_
  obtain ⟨y54, y55, y56, y57, y58, y59, f53⟩ := hS.ln hj
  refine r_getv 1 rfl dX3_becomeCut_6 (show 2 ≤ 100 + 8 * j ∧ 100 + 8 * j < 434 by omega) f53 fl_X3_28 rfl ?_
  refine r_iload rfl dX3_becomeCut_9 rfl ?_
  refine r_iand rfl dX3_becomeCut_11 ?_
  refine r_if_eq (tgt := 25) rfl rfl dX3_becomeCut_12 (fun c60 => ?_) (fun c60 => ?_)
  · refine r_iconst (v := 0) rfl dX3_becomeCut_25 (by decide) ?_
    exact r_ret dX3_becomeCut_26 (rt_z rfl (Or.inl rfl)) ⟨_, rfl⟩
  · refine r_aload_n rfl dX3_becomeCut_15 rfl ?_
    obtain ⟨y62, y63, y64, y65, y66, y67, f61⟩ := hS.ln hl
    refine r_getv 2 rfl dX3_becomeCut_16 (show 2 ≤ 100 + 8 * l ∧ 100 + 8 * l < 434 by omega) f61 fl_X3_31 rfl ?_
    refine r_iload rfl dX3_becomeCut_19 rfl ?_
    refine r_iand rfl dX3_becomeCut_21 ?_
    refine r_if_ne (tgt := 27) rfl rfl dX3_becomeCut_22 (fun c68 => ?_) (fun c68 => ?_)
    · refine r_aload_n rfl dX3_becomeCut_27 rfl ?_
      refine r_getv 1 rfl dX3_becomeCut_28 (show 2 ≤ 100 + 8 * j ∧ 100 + 8 * j < 434 by omega) f53 fl_X3_28 rfl ?_
      refine r_iload rfl dX3_becomeCut_31 rfl ?_
      refine r_iconst (v := (-1)) rfl dX3_becomeCut_33 (by decide) ?_
      refine r_ixor rfl dX3_becomeCut_34 ?_
      refine r_iand rfl dX3_becomeCut_35 ?_
      refine r_aload_n rfl dX3_becomeCut_36 rfl ?_
      refine r_getv 1 rfl dX3_becomeCut_37 (show 2 ≤ 100 + 8 * l ∧ 100 + 8 * l < 434 by omega) f61 fl_X3_28 rfl ?_
      refine r_ior rfl dX3_becomeCut_40 ?_
      refine r_topi (fun x69 e70 => ?_)
      refine r_istore (ls' := [some (.ref (100 + 8 * i)), some (.ref (100 + 8 * j)), some (.ref (100 + 8 * l)), some (.int c), some (.int x51), some (.int x69), none]) rfl dX3_becomeCut_41 (Nat.le_of_ble_eq_true rfl) rfl ?_
      refine r_aload_n rfl dX3_becomeCut_43 rfl ?_
      refine r_getv 2 rfl dX3_becomeCut_44 (show 2 ≤ 100 + 8 * j ∧ 100 + 8 * j < 434 by omega) f53 fl_X3_31 rfl ?_
      refine r_aload_n rfl dX3_becomeCut_47 rfl ?_
      refine r_getv 2 rfl dX3_becomeCut_48 (show 2 ≤ 100 + 8 * l ∧ 100 + 8 * l < 434 by omega) f61 fl_X3_31 rfl ?_
      refine r_iload rfl dX3_becomeCut_51 rfl ?_
      refine r_iconst (v := (-1)) rfl dX3_becomeCut_53 (by decide) ?_
      refine r_ixor rfl dX3_becomeCut_54 ?_
      refine r_iand rfl dX3_becomeCut_55 ?_
      refine r_ior rfl dX3_becomeCut_56 ?_
      refine r_topi (fun x71 e72 => ?_)
      refine r_istore (ls' := [some (.ref (100 + 8 * i)), some (.ref (100 + 8 * j)), some (.ref (100 + 8 * l)), some (.int c), some (.int x51), some (.int x69), some (.int x71)]) rfl dX3_becomeCut_57 (Nat.le_of_ble_eq_true rfl) rfl ?_
      refine r_iload rfl dX3_becomeCut_59 rfl ?_
      refine r_iload rfl dX3_becomeCut_61 rfl ?_
      refine r_iand rfl dX3_becomeCut_63 ?_
      refine r_if_eq (tgt := 69) rfl rfl dX3_becomeCut_64 (fun c73 => ?_) (fun c73 => ?_)
      · refine r_aload_n rfl dX3_becomeCut_69 rfl ?_
        refine r_iload rfl dX3_becomeCut_70 rfl ?_
        obtain ⟨y75, y76, y77, y78, y79, y80, f74⟩ := hS.ln hi
        refine k_put 1 rfl dX3_becomeCut_72 (show 2 ≤ 100 + 8 * i ∧ 100 + 8 * i < 434 by omega) hS f74 (fp_X3_28 rfl _) (Nat.le_of_ble_eq_true rfl) (fun h81 hS82 => ?_)
        refine r_aload_n rfl dX3_becomeCut_75 rfl ?_
        refine r_iload rfl dX3_becomeCut_76 rfl ?_
        obtain ⟨y84, y85, y86, y87, y88, y89, f83⟩ := hS82.ln hi
        refine k_put 2 rfl dX3_becomeCut_78 (show 2 ≤ 100 + 8 * i ∧ 100 + 8 * i < 434 by omega) hS82 f83 (fp_X3_31 rfl _) (Nat.le_of_ble_eq_true rfl) (fun h90 hS91 => ?_)
        refine r_iconst (v := 1) rfl dX3_becomeCut_81 (by decide) ?_
        exact r_ret dX3_becomeCut_82 (rt_z rfl (Or.inr rfl)) ⟨_, rfl⟩
      · refine r_iconst (v := 0) rfl dX3_becomeCut_67 (by decide) ?_
        exact r_ret dX3_becomeCut_68 (rt_z rfl (Or.inl rfl)) ⟨_, rfl⟩
    · refine r_iconst (v := 0) rfl dX3_becomeCut_25 (by decide) ?_
      exact r_ret dX3_becomeCut_26 (rt_z rfl (Or.inl rfl)) ⟨_, rfl⟩
def jns (a b : Int32) : Int32 := if b = 1 then (1) else (if ¬ b = 3 then (0) else (if ¬ a = 1 then (0) else (1)))
set_option maxRecDepth 20000 in
theorem s_X3_joins {xs : Nat → Int32} {L d sz : Nat} {h : ev_H} {a b : Int32}  : EV xs L (d + 0) 0 0 M_X3_joins sz h 0 [some (.int a), some (.int b)] [] (fun sz' h' r => sz' = sz ∧ h' = h ∧ r = [.int (jns a b)]) := by
  refine r_iload_n rfl dX3_joins_0 rfl ?_
  refine r_iconst (v := 1) rfl dX3_joins_1 (by decide) ?_
  refine r_icmp_eq (tgt := 15) rfl rfl dX3_joins_2 (fun c51 => ?_) (fun c51 => ?_)
  · refine r_iconst (v := 1) rfl dX3_joins_15 (by decide) ?_
    refine r_goto (pc' := 20) rfl dX3_joins_16 ?_
    exact r_ret dX3_joins_20 (rt_z rfl (Or.inr rfl)) ⟨rfl, rfl, (by unfold jns; rw [if_pos c51] <;> rfl)⟩
  · refine r_iload_n rfl dX3_joins_5 rfl ?_
    refine r_iconst (v := 3) rfl dX3_joins_6 (by decide) ?_
    refine r_icmp_ne (tgt := 19) rfl rfl dX3_joins_7 (fun c52 => ?_) (fun c52 => ?_)
    · refine r_iconst (v := 0) rfl dX3_joins_19 (by decide) ?_
      exact r_ret dX3_joins_20 (rt_z rfl (Or.inl rfl)) ⟨rfl, rfl, (by unfold jns; rw [if_neg c51, if_pos c52] <;> rfl)⟩
    · refine r_iload_n rfl dX3_joins_10 rfl ?_
      refine r_iconst (v := 1) rfl dX3_joins_11 (by decide) ?_
      refine r_icmp_ne (tgt := 19) rfl rfl dX3_joins_12 (fun c53 => ?_) (fun c53 => ?_)
      · refine r_iconst (v := 0) rfl dX3_joins_19 (by decide) ?_
        exact r_ret dX3_joins_20 (rt_z rfl (Or.inl rfl)) ⟨rfl, rfl, (by unfold jns; rw [if_neg c51, if_neg (fun z => z c52), if_pos c53] <;> rfl)⟩
      · refine r_iconst (v := 1) rfl dX3_joins_15 (by decide) ?_
        refine r_goto (pc' := 20) rfl dX3_joins_16 ?_
        exact r_ret dX3_joins_20 (rt_z rfl (Or.inr rfl)) ⟨rfl, rfl, (by unfold jns; rw [if_neg c51, if_neg (fun z => z c52), if_neg (fun z => z c53)] <;> rfl)⟩
set_option maxRecDepth 20000 in
theorem s_X3_sayAsCut {xs : Nat → Int32} {L d : Nat} {h : ev_H} (hS : SH h) {i j l : Nat} (hi : i < 40) (hj : j < 40) (hl : l < 40) (hij : i ≠ j) (hil : i ≠ l) {o : Int32} : EV xs L (d + 2) 0 0 M_X3_sayAsCut 434 h 0 [some (.ref (100 + 8 * i)), some (.ref (100 + 8 * j)), some (.ref (100 + 8 * l)), some (.int o), none, none, none] [] (fun sz' h' r => r = []) := by
  refine r_iconst (v := 0) rfl dX3_sayAsCut_0 (by decide) ?_
  refine r_istore (ls' := [some (.ref (100 + 8 * i)), some (.ref (100 + 8 * j)), some (.ref (100 + 8 * l)), some (.int o), some (.int 0), none, none]) rfl dX3_sayAsCut_1 (Nat.le_of_ble_eq_true rfl) rfl ?_
  refine r_iload rfl dX3_sayAsCut_3 rfl ?_
  refine r_iconst (v := 3) rfl dX3_sayAsCut_5 (by decide) ?_
  refine r_icmp_ge (tgt := 113) rfl rfl dX3_sayAsCut_6 (fun c => absurd c (by decide)) (fun _ => ?_)
  refine r_aload_n rfl dX3_sayAsCut_9 rfl ?_
  obtain ⟨y52, y53, y54, y55, y56, y57, f51⟩ := hS.ln hj
  refine r_getv 0 rfl dX3_sayAsCut_10 (show 2 ≤ 100 + 8 * j ∧ 100 + 8 * j < 434 by omega) f51 fl_X3_11 rfl ?_
  refine r_iload rfl dX3_sayAsCut_13 rfl ?_
  refine r_aald (jn := 0) (v := .ref (102 + 8 * j + 2 * 0)) rfl dX3_sayAsCut_15 (show 2 ≤ 101 + 8 * j ∧ 101 + 8 * j < 434 by omega).1 (show 2 ≤ 101 + 8 * j ∧ 101 + 8 * j < 434 by omega).2 (hS.say hj) (by decide) (by unfold vp_in; decide) rfl (by show va_rf (if _ < _ then _ else _) = _; rw [if_pos (show 0 < 3 by decide)]; rfl) ?_
  refine r_astore (ls' := [some (.ref (100 + 8 * i)), some (.ref (100 + 8 * j)), some (.ref (100 + 8 * l)), some (.int o), some (.int 0), some (.ref (102 + 8 * j + 2 * 0)), none]) rfl dX3_sayAsCut_16 (Nat.le_of_ble_eq_true rfl) rfl ?_
  refine r_aload_n rfl dX3_sayAsCut_18 rfl ?_
  obtain ⟨y60, y61, y62, y63, y64, y65, f59⟩ := hS.ln hl
  refine r_getv 0 rfl dX3_sayAsCut_19 (show 2 ≤ 100 + 8 * l ∧ 100 + 8 * l < 434 by omega) f59 fl_X3_11 rfl ?_
  refine r_iload rfl dX3_sayAsCut_22 rfl ?_
  refine r_aald (jn := 0) (v := .ref (102 + 8 * l + 2 * 0)) rfl dX3_sayAsCut_24 (show 2 ≤ 101 + 8 * l ∧ 101 + 8 * l < 434 by omega).1 (show 2 ≤ 101 + 8 * l ∧ 101 + 8 * l < 434 by omega).2 (hS.say hl) (by decide) (by unfold vp_in; decide) rfl (by show va_rf (if _ < _ then _ else _) = _; rw [if_pos (show 0 < 3 by decide)]; rfl) ?_
  refine r_astore (ls' := [some (.ref (100 + 8 * i)), some (.ref (100 + 8 * j)), some (.ref (100 + 8 * l)), some (.int o), some (.int 0), some (.ref (102 + 8 * j + 2 * 0)), some (.ref (102 + 8 * l + 2 * 0))]) rfl dX3_sayAsCut_25 (Nat.le_of_ble_eq_true rfl) rfl ?_
  refine r_iload rfl dX3_sayAsCut_27 rfl ?_
  refine r_iconst (v := 2) rfl dX3_sayAsCut_29 (by decide) ?_
  refine r_icmp_ne (tgt := 59) rfl rfl dX3_sayAsCut_30 (fun _ => ?_) (fun c => absurd c (by decide))
  refine r_aload_n rfl dX3_sayAsCut_59 rfl ?_
  obtain ⟨y68, y69, y70, y71, y72, y73, f67⟩ := hS.ln hi
  refine r_getv 0 rfl dX3_sayAsCut_60 (show 2 ≤ 100 + 8 * i ∧ 100 + 8 * i < 434 by omega) f67 fl_X3_11 rfl ?_
  refine r_iload rfl dX3_sayAsCut_63 rfl ?_
  refine r_aald (jn := 0) (v := .ref (102 + 8 * i + 2 * 0)) rfl dX3_sayAsCut_65 (show 2 ≤ 101 + 8 * i ∧ 101 + 8 * i < 434 by omega).1 (show 2 ≤ 101 + 8 * i ∧ 101 + 8 * i < 434 by omega).2 (hS.say hi) (by decide) (by unfold vp_in; decide) rfl (by show va_rf (if _ < _ then _ else _) = _; rw [if_pos (show 0 < 3 by decide)]; rfl) ?_
  refine r_aload rfl dX3_sayAsCut_66 rfl ?_
  obtain ⟨g76, hw77⟩ := hS.ws (wsAt_ln hi (w := 0) (show 0 < 3 by decide))
  obtain ⟨g79, hw80⟩ := hS.ws (wsAt_ln hj (w := 0) (show 0 < 3 by decide))
  refine cl_X3_64 rfl rfl dX3_sayAsCut_68 (show _ ∧ _ from ⟨(wsAt_ln hi (w := 0) (show 0 < 3 by decide)).2.2.1, Nat.lt_of_succ_lt (wsAt_ln hi (w := 0) (show 0 < 3 by decide)).2.2.2⟩).1 (show _ ∧ _ from ⟨(wsAt_ln hi (w := 0) (show 0 < 3 by decide)).2.2.1, Nat.lt_of_succ_lt (wsAt_ln hi (w := 0) (show 0 < 3 by decide)).2.2.2⟩).2 hw77.2.2.1 (Nat.le_of_ble_eq_true rfl) ((s_X10_become hw77 hw80 (by omega)).sh hS) ?_
  rintro _ h81 _ ⟨⟨rfl, -, rfl⟩, -, hS82, -⟩
  refine r_iload rfl dX3_sayAsCut_71 rfl ?_
  refine r_iload_n rfl dX3_sayAsCut_73 rfl ?_
  refine cl_X3_68 rfl rfl dX3_sayAsCut_74 (Nat.le_of_ble_eq_true rfl) s_X3_joins ?_
  rintro _ h83 _ ⟨rfl, e84, rfl⟩
  replace e84 := e84.symm
  subst e84
  refine r_if_eq (tgt := 95) rfl rfl dX3_sayAsCut_77 (fun c85 => ?_) (fun c85 => ?_)
  · refine r_aload_n rfl dX3_sayAsCut_95 rfl ?_
    obtain ⟨y87, y88, y89, y90, y91, y92, f86⟩ := hS82.ln hi
    refine r_getv 0 rfl dX3_sayAsCut_96 (show 2 ≤ 100 + 8 * i ∧ 100 + 8 * i < 434 by omega) f86 fl_X3_11 rfl ?_
    refine r_iload rfl dX3_sayAsCut_99 rfl ?_
    refine r_aald (jn := 0) (v := .ref (102 + 8 * i + 2 * 0)) rfl dX3_sayAsCut_101 (show 2 ≤ 101 + 8 * i ∧ 101 + 8 * i < 434 by omega).1 (show 2 ≤ 101 + 8 * i ∧ 101 + 8 * i < 434 by omega).2 (hS82.say hi) (by decide) (by unfold vp_in; decide) rfl (by show va_rf (if _ < _ then _ else _) = _; rw [if_pos (show 0 < 3 by decide)]; rfl) ?_
    refine r_aload rfl dX3_sayAsCut_102 rfl ?_
    obtain ⟨g95, hw96⟩ := hS82.ws (wsAt_ln hi (w := 0) (show 0 < 3 by decide))
    obtain ⟨g98, hw99⟩ := hS82.ws (wsAt_ln hl (w := 0) (show 0 < 3 by decide))
    refine cl_X3_75 rfl rfl dX3_sayAsCut_104 (show _ ∧ _ from ⟨(wsAt_ln hi (w := 0) (show 0 < 3 by decide)).2.2.1, Nat.lt_of_succ_lt (wsAt_ln hi (w := 0) (show 0 < 3 by decide)).2.2.2⟩).1 (show _ ∧ _ from ⟨(wsAt_ln hi (w := 0) (show 0 < 3 by decide)).2.2.1, Nat.lt_of_succ_lt (wsAt_ln hi (w := 0) (show 0 < 3 by decide)).2.2.2⟩).2 hw96.2.2.1 (Nat.le_of_ble_eq_true rfl) ((s_X10_meet hw96 hw99 (by omega)).sh hS82) ?_
    rintro _ h100 _ ⟨⟨rfl, -, rfl⟩, -, hS101, -⟩
    refine r_iinc (y := 1) (ls' := [some (.ref (100 + 8 * i)), some (.ref (100 + 8 * j)), some (.ref (100 + 8 * l)), some (.int o), some (.int 1), some (.ref (102 + 8 * j + 2 * 0)), some (.ref (102 + 8 * l + 2 * 0))]) rfl dX3_sayAsCut_107 rfl (by decide) (Nat.le_of_ble_eq_true rfl) rfl ?_
    refine r_goto (pc' := 3) rfl dX3_sayAsCut_110 ?_
    refine r_iload rfl dX3_sayAsCut_3 rfl ?_
    refine r_iconst (v := 3) rfl dX3_sayAsCut_5 (by decide) ?_
    refine r_icmp_ge (tgt := 113) rfl rfl dX3_sayAsCut_6 (fun c => absurd c (by decide)) (fun _ => ?_)
    refine r_aload_n rfl dX3_sayAsCut_9 rfl ?_
    obtain ⟨y103, y104, y105, y106, y107, y108, f102⟩ := hS101.ln hj
    refine r_getv 0 rfl dX3_sayAsCut_10 (show 2 ≤ 100 + 8 * j ∧ 100 + 8 * j < 434 by omega) f102 fl_X3_11 rfl ?_
    refine r_iload rfl dX3_sayAsCut_13 rfl ?_
    refine r_aald (jn := 1) (v := .ref (102 + 8 * j + 2 * 1)) rfl dX3_sayAsCut_15 (show 2 ≤ 101 + 8 * j ∧ 101 + 8 * j < 434 by omega).1 (show 2 ≤ 101 + 8 * j ∧ 101 + 8 * j < 434 by omega).2 (hS101.say hj) (by decide) (by unfold vp_in; decide) rfl (by show va_rf (if _ < _ then _ else _) = _; rw [if_pos (show 1 < 3 by decide)]; rfl) ?_
    refine r_astore (ls' := [some (.ref (100 + 8 * i)), some (.ref (100 + 8 * j)), some (.ref (100 + 8 * l)), some (.int o), some (.int 1), some (.ref (102 + 8 * j + 2 * 1)), some (.ref (102 + 8 * l + 2 * 0))]) rfl dX3_sayAsCut_16 (Nat.le_of_ble_eq_true rfl) rfl ?_
    refine r_aload_n rfl dX3_sayAsCut_18 rfl ?_
    obtain ⟨y111, y112, y113, y114, y115, y116, f110⟩ := hS101.ln hl
    refine r_getv 0 rfl dX3_sayAsCut_19 (show 2 ≤ 100 + 8 * l ∧ 100 + 8 * l < 434 by omega) f110 fl_X3_11 rfl ?_
    refine r_iload rfl dX3_sayAsCut_22 rfl ?_
    refine r_aald (jn := 1) (v := .ref (102 + 8 * l + 2 * 1)) rfl dX3_sayAsCut_24 (show 2 ≤ 101 + 8 * l ∧ 101 + 8 * l < 434 by omega).1 (show 2 ≤ 101 + 8 * l ∧ 101 + 8 * l < 434 by omega).2 (hS101.say hl) (by decide) (by unfold vp_in; decide) rfl (by show va_rf (if _ < _ then _ else _) = _; rw [if_pos (show 1 < 3 by decide)]; rfl) ?_
    refine r_astore (ls' := [some (.ref (100 + 8 * i)), some (.ref (100 + 8 * j)), some (.ref (100 + 8 * l)), some (.int o), some (.int 1), some (.ref (102 + 8 * j + 2 * 1)), some (.ref (102 + 8 * l + 2 * 1))]) rfl dX3_sayAsCut_25 (Nat.le_of_ble_eq_true rfl) rfl ?_
    refine r_iload rfl dX3_sayAsCut_27 rfl ?_
    refine r_iconst (v := 2) rfl dX3_sayAsCut_29 (by decide) ?_
    refine r_icmp_ne (tgt := 59) rfl rfl dX3_sayAsCut_30 (fun _ => ?_) (fun c => absurd c (by decide))
    refine r_aload_n rfl dX3_sayAsCut_59 rfl ?_
    obtain ⟨y119, y120, y121, y122, y123, y124, f118⟩ := hS101.ln hi
    refine r_getv 0 rfl dX3_sayAsCut_60 (show 2 ≤ 100 + 8 * i ∧ 100 + 8 * i < 434 by omega) f118 fl_X3_11 rfl ?_
    refine r_iload rfl dX3_sayAsCut_63 rfl ?_
    refine r_aald (jn := 1) (v := .ref (102 + 8 * i + 2 * 1)) rfl dX3_sayAsCut_65 (show 2 ≤ 101 + 8 * i ∧ 101 + 8 * i < 434 by omega).1 (show 2 ≤ 101 + 8 * i ∧ 101 + 8 * i < 434 by omega).2 (hS101.say hi) (by decide) (by unfold vp_in; decide) rfl (by show va_rf (if _ < _ then _ else _) = _; rw [if_pos (show 1 < 3 by decide)]; rfl) ?_
    refine r_aload rfl dX3_sayAsCut_66 rfl ?_
    obtain ⟨g127, hw128⟩ := hS101.ws (wsAt_ln hi (w := 1) (show 1 < 3 by decide))
    obtain ⟨g130, hw131⟩ := hS101.ws (wsAt_ln hj (w := 1) (show 1 < 3 by decide))
    refine cl_X3_64 rfl rfl dX3_sayAsCut_68 (show _ ∧ _ from ⟨(wsAt_ln hi (w := 1) (show 1 < 3 by decide)).2.2.1, Nat.lt_of_succ_lt (wsAt_ln hi (w := 1) (show 1 < 3 by decide)).2.2.2⟩).1 (show _ ∧ _ from ⟨(wsAt_ln hi (w := 1) (show 1 < 3 by decide)).2.2.1, Nat.lt_of_succ_lt (wsAt_ln hi (w := 1) (show 1 < 3 by decide)).2.2.2⟩).2 hw128.2.2.1 (Nat.le_of_ble_eq_true rfl) ((s_X10_become hw128 hw131 (by omega)).sh hS101) ?_
    rintro _ h132 _ ⟨⟨rfl, -, rfl⟩, -, hS133, -⟩
    refine r_iload rfl dX3_sayAsCut_71 rfl ?_
    refine r_iload_n rfl dX3_sayAsCut_73 rfl ?_
    refine cl_X3_68 rfl rfl dX3_sayAsCut_74 (Nat.le_of_ble_eq_true rfl) s_X3_joins ?_
    rintro _ h134 _ ⟨rfl, e135, rfl⟩
    replace e135 := e135.symm
    subst e135
    refine r_if_eq (tgt := 95) rfl rfl dX3_sayAsCut_77 (fun c136 => ?_) (fun c136 => ?_)
    · refine r_aload_n rfl dX3_sayAsCut_95 rfl ?_
      obtain ⟨y138, y139, y140, y141, y142, y143, f137⟩ := hS133.ln hi
      refine r_getv 0 rfl dX3_sayAsCut_96 (show 2 ≤ 100 + 8 * i ∧ 100 + 8 * i < 434 by omega) f137 fl_X3_11 rfl ?_
      refine r_iload rfl dX3_sayAsCut_99 rfl ?_
      refine r_aald (jn := 1) (v := .ref (102 + 8 * i + 2 * 1)) rfl dX3_sayAsCut_101 (show 2 ≤ 101 + 8 * i ∧ 101 + 8 * i < 434 by omega).1 (show 2 ≤ 101 + 8 * i ∧ 101 + 8 * i < 434 by omega).2 (hS133.say hi) (by decide) (by unfold vp_in; decide) rfl (by show va_rf (if _ < _ then _ else _) = _; rw [if_pos (show 1 < 3 by decide)]; rfl) ?_
      refine r_aload rfl dX3_sayAsCut_102 rfl ?_
      obtain ⟨g146, hw147⟩ := hS133.ws (wsAt_ln hi (w := 1) (show 1 < 3 by decide))
      obtain ⟨g149, hw150⟩ := hS133.ws (wsAt_ln hl (w := 1) (show 1 < 3 by decide))
      refine cl_X3_75 rfl rfl dX3_sayAsCut_104 (show _ ∧ _ from ⟨(wsAt_ln hi (w := 1) (show 1 < 3 by decide)).2.2.1, Nat.lt_of_succ_lt (wsAt_ln hi (w := 1) (show 1 < 3 by decide)).2.2.2⟩).1 (show _ ∧ _ from ⟨(wsAt_ln hi (w := 1) (show 1 < 3 by decide)).2.2.1, Nat.lt_of_succ_lt (wsAt_ln hi (w := 1) (show 1 < 3 by decide)).2.2.2⟩).2 hw147.2.2.1 (Nat.le_of_ble_eq_true rfl) ((s_X10_meet hw147 hw150 (by omega)).sh hS133) ?_
      rintro _ h151 _ ⟨⟨rfl, -, rfl⟩, -, hS152, -⟩
      refine r_iinc (y := 2) (ls' := [some (.ref (100 + 8 * i)), some (.ref (100 + 8 * j)), some (.ref (100 + 8 * l)), some (.int o), some (.int 2), some (.ref (102 + 8 * j + 2 * 1)), some (.ref (102 + 8 * l + 2 * 1))]) rfl dX3_sayAsCut_107 rfl (by decide) (Nat.le_of_ble_eq_true rfl) rfl ?_
      refine r_goto (pc' := 3) rfl dX3_sayAsCut_110 ?_
      refine r_iload rfl dX3_sayAsCut_3 rfl ?_
      refine r_iconst (v := 3) rfl dX3_sayAsCut_5 (by decide) ?_
      refine r_icmp_ge (tgt := 113) rfl rfl dX3_sayAsCut_6 (fun c => absurd c (by decide)) (fun _ => ?_)
      refine r_aload_n rfl dX3_sayAsCut_9 rfl ?_
      obtain ⟨y154, y155, y156, y157, y158, y159, f153⟩ := hS152.ln hj
      refine r_getv 0 rfl dX3_sayAsCut_10 (show 2 ≤ 100 + 8 * j ∧ 100 + 8 * j < 434 by omega) f153 fl_X3_11 rfl ?_
      refine r_iload rfl dX3_sayAsCut_13 rfl ?_
      refine r_aald (jn := 2) (v := .ref (102 + 8 * j + 2 * 2)) rfl dX3_sayAsCut_15 (show 2 ≤ 101 + 8 * j ∧ 101 + 8 * j < 434 by omega).1 (show 2 ≤ 101 + 8 * j ∧ 101 + 8 * j < 434 by omega).2 (hS152.say hj) (by decide) (by unfold vp_in; decide) rfl (by show va_rf (if _ < _ then _ else _) = _; rw [if_pos (show 2 < 3 by decide)]; rfl) ?_
      refine r_astore (ls' := [some (.ref (100 + 8 * i)), some (.ref (100 + 8 * j)), some (.ref (100 + 8 * l)), some (.int o), some (.int 2), some (.ref (102 + 8 * j + 2 * 2)), some (.ref (102 + 8 * l + 2 * 1))]) rfl dX3_sayAsCut_16 (Nat.le_of_ble_eq_true rfl) rfl ?_
      refine r_aload_n rfl dX3_sayAsCut_18 rfl ?_
      obtain ⟨y162, y163, y164, y165, y166, y167, f161⟩ := hS152.ln hl
      refine r_getv 0 rfl dX3_sayAsCut_19 (show 2 ≤ 100 + 8 * l ∧ 100 + 8 * l < 434 by omega) f161 fl_X3_11 rfl ?_
      refine r_iload rfl dX3_sayAsCut_22 rfl ?_
      refine r_aald (jn := 2) (v := .ref (102 + 8 * l + 2 * 2)) rfl dX3_sayAsCut_24 (show 2 ≤ 101 + 8 * l ∧ 101 + 8 * l < 434 by omega).1 (show 2 ≤ 101 + 8 * l ∧ 101 + 8 * l < 434 by omega).2 (hS152.say hl) (by decide) (by unfold vp_in; decide) rfl (by show va_rf (if _ < _ then _ else _) = _; rw [if_pos (show 2 < 3 by decide)]; rfl) ?_
      refine r_astore (ls' := [some (.ref (100 + 8 * i)), some (.ref (100 + 8 * j)), some (.ref (100 + 8 * l)), some (.int o), some (.int 2), some (.ref (102 + 8 * j + 2 * 2)), some (.ref (102 + 8 * l + 2 * 2))]) rfl dX3_sayAsCut_25 (Nat.le_of_ble_eq_true rfl) rfl ?_
      refine r_iload rfl dX3_sayAsCut_27 rfl ?_
      refine r_iconst (v := 2) rfl dX3_sayAsCut_29 (by decide) ?_
      refine r_icmp_ne (tgt := 59) rfl rfl dX3_sayAsCut_30 (fun c => absurd c (by decide)) (fun _ => ?_)
      refine r_iload_n rfl dX3_sayAsCut_33 rfl ?_
      refine r_iconst (v := 3) rfl dX3_sayAsCut_34 (by decide) ?_
      refine r_icmp_ne (tgt := 59) rfl rfl dX3_sayAsCut_35 (fun c169 => ?_) (fun c169 => ?_)
      · refine r_aload_n rfl dX3_sayAsCut_59 rfl ?_
        obtain ⟨y171, y172, y173, y174, y175, y176, f170⟩ := hS152.ln hi
        refine r_getv 0 rfl dX3_sayAsCut_60 (show 2 ≤ 100 + 8 * i ∧ 100 + 8 * i < 434 by omega) f170 fl_X3_11 rfl ?_
        refine r_iload rfl dX3_sayAsCut_63 rfl ?_
        refine r_aald (jn := 2) (v := .ref (102 + 8 * i + 2 * 2)) rfl dX3_sayAsCut_65 (show 2 ≤ 101 + 8 * i ∧ 101 + 8 * i < 434 by omega).1 (show 2 ≤ 101 + 8 * i ∧ 101 + 8 * i < 434 by omega).2 (hS152.say hi) (by decide) (by unfold vp_in; decide) rfl (by show va_rf (if _ < _ then _ else _) = _; rw [if_pos (show 2 < 3 by decide)]; rfl) ?_
        refine r_aload rfl dX3_sayAsCut_66 rfl ?_
        obtain ⟨g179, hw180⟩ := hS152.ws (wsAt_ln hi (w := 2) (show 2 < 3 by decide))
        obtain ⟨g182, hw183⟩ := hS152.ws (wsAt_ln hj (w := 2) (show 2 < 3 by decide))
        refine cl_X3_64 rfl rfl dX3_sayAsCut_68 (show _ ∧ _ from ⟨(wsAt_ln hi (w := 2) (show 2 < 3 by decide)).2.2.1, Nat.lt_of_succ_lt (wsAt_ln hi (w := 2) (show 2 < 3 by decide)).2.2.2⟩).1 (show _ ∧ _ from ⟨(wsAt_ln hi (w := 2) (show 2 < 3 by decide)).2.2.1, Nat.lt_of_succ_lt (wsAt_ln hi (w := 2) (show 2 < 3 by decide)).2.2.2⟩).2 hw180.2.2.1 (Nat.le_of_ble_eq_true rfl) ((s_X10_become hw180 hw183 (by omega)).sh hS152) ?_
        rintro _ h184 _ ⟨⟨rfl, -, rfl⟩, -, hS185, -⟩
        refine r_iload rfl dX3_sayAsCut_71 rfl ?_
        refine r_iload_n rfl dX3_sayAsCut_73 rfl ?_
        refine cl_X3_68 rfl rfl dX3_sayAsCut_74 (Nat.le_of_ble_eq_true rfl) s_X3_joins ?_
        rintro _ h186 _ ⟨rfl, e187, rfl⟩
        replace e187 := e187.symm
        subst e187
        refine r_if_eq (tgt := 95) rfl rfl dX3_sayAsCut_77 (fun c188 => ?_) (fun c188 => ?_)
        · refine r_aload_n rfl dX3_sayAsCut_95 rfl ?_
          obtain ⟨y190, y191, y192, y193, y194, y195, f189⟩ := hS185.ln hi
          refine r_getv 0 rfl dX3_sayAsCut_96 (show 2 ≤ 100 + 8 * i ∧ 100 + 8 * i < 434 by omega) f189 fl_X3_11 rfl ?_
          refine r_iload rfl dX3_sayAsCut_99 rfl ?_
          refine r_aald (jn := 2) (v := .ref (102 + 8 * i + 2 * 2)) rfl dX3_sayAsCut_101 (show 2 ≤ 101 + 8 * i ∧ 101 + 8 * i < 434 by omega).1 (show 2 ≤ 101 + 8 * i ∧ 101 + 8 * i < 434 by omega).2 (hS185.say hi) (by decide) (by unfold vp_in; decide) rfl (by show va_rf (if _ < _ then _ else _) = _; rw [if_pos (show 2 < 3 by decide)]; rfl) ?_
          refine r_aload rfl dX3_sayAsCut_102 rfl ?_
          obtain ⟨g198, hw199⟩ := hS185.ws (wsAt_ln hi (w := 2) (show 2 < 3 by decide))
          obtain ⟨g201, hw202⟩ := hS185.ws (wsAt_ln hl (w := 2) (show 2 < 3 by decide))
          refine cl_X3_75 rfl rfl dX3_sayAsCut_104 (show _ ∧ _ from ⟨(wsAt_ln hi (w := 2) (show 2 < 3 by decide)).2.2.1, Nat.lt_of_succ_lt (wsAt_ln hi (w := 2) (show 2 < 3 by decide)).2.2.2⟩).1 (show _ ∧ _ from ⟨(wsAt_ln hi (w := 2) (show 2 < 3 by decide)).2.2.1, Nat.lt_of_succ_lt (wsAt_ln hi (w := 2) (show 2 < 3 by decide)).2.2.2⟩).2 hw199.2.2.1 (Nat.le_of_ble_eq_true rfl) ((s_X10_meet hw199 hw202 (by omega)).sh hS185) ?_
          rintro _ h203 _ ⟨⟨rfl, -, rfl⟩, -, hS204, -⟩
          refine r_iinc (y := 3) (ls' := [some (.ref (100 + 8 * i)), some (.ref (100 + 8 * j)), some (.ref (100 + 8 * l)), some (.int o), some (.int 3), some (.ref (102 + 8 * j + 2 * 2)), some (.ref (102 + 8 * l + 2 * 2))]) rfl dX3_sayAsCut_107 rfl (by decide) (Nat.le_of_ble_eq_true rfl) rfl ?_
          refine r_goto (pc' := 3) rfl dX3_sayAsCut_110 ?_
          refine r_iload rfl dX3_sayAsCut_3 rfl ?_
          refine r_iconst (v := 3) rfl dX3_sayAsCut_5 (by decide) ?_
          refine r_icmp_ge (tgt := 113) rfl rfl dX3_sayAsCut_6 (fun _ => ?_) (fun c => absurd c (by decide))
          exact r_ret dX3_sayAsCut_113 (rt_v rfl) rfl
        · refine r_aload_n rfl dX3_sayAsCut_80 rfl ?_
          obtain ⟨y206, y207, y208, y209, y210, y211, f205⟩ := hS185.ln hi
          refine r_getv 0 rfl dX3_sayAsCut_81 (show 2 ≤ 100 + 8 * i ∧ 100 + 8 * i < 434 by omega) f205 fl_X3_11 rfl ?_
          refine r_iload rfl dX3_sayAsCut_84 rfl ?_
          refine r_aald (jn := 2) (v := .ref (102 + 8 * i + 2 * 2)) rfl dX3_sayAsCut_86 (show 2 ≤ 101 + 8 * i ∧ 101 + 8 * i < 434 by omega).1 (show 2 ≤ 101 + 8 * i ∧ 101 + 8 * i < 434 by omega).2 (hS185.say hi) (by decide) (by unfold vp_in; decide) rfl (by show va_rf (if _ < _ then _ else _) = _; rw [if_pos (show 2 < 3 by decide)]; rfl) ?_
          refine r_aload rfl dX3_sayAsCut_87 rfl ?_
          obtain ⟨g214, hw215⟩ := hS185.ws (wsAt_ln hi (w := 2) (show 2 < 3 by decide))
          obtain ⟨g217, hw218⟩ := hS185.ws (wsAt_ln hl (w := 2) (show 2 < 3 by decide))
          refine cl_X3_72 rfl rfl dX3_sayAsCut_89 (show _ ∧ _ from ⟨(wsAt_ln hi (w := 2) (show 2 < 3 by decide)).2.2.1, Nat.lt_of_succ_lt (wsAt_ln hi (w := 2) (show 2 < 3 by decide)).2.2.2⟩).1 (show _ ∧ _ from ⟨(wsAt_ln hi (w := 2) (show 2 < 3 by decide)).2.2.1, Nat.lt_of_succ_lt (wsAt_ln hi (w := 2) (show 2 < 3 by decide)).2.2.2⟩).2 hw215.2.2.1 (Nat.le_of_ble_eq_true rfl) ((s_X10_join hw215 hw218 (by omega)).sh hS185) ?_
          rintro _ h219 _ ⟨⟨rfl, -, rfl⟩, -, hS220, -⟩
          refine r_goto (pc' := 107) rfl dX3_sayAsCut_92 ?_
          refine r_iinc (y := 3) (ls' := [some (.ref (100 + 8 * i)), some (.ref (100 + 8 * j)), some (.ref (100 + 8 * l)), some (.int o), some (.int 3), some (.ref (102 + 8 * j + 2 * 2)), some (.ref (102 + 8 * l + 2 * 2))]) rfl dX3_sayAsCut_107 rfl (by decide) (Nat.le_of_ble_eq_true rfl) rfl ?_
          refine r_goto (pc' := 3) rfl dX3_sayAsCut_110 ?_
          refine r_iload rfl dX3_sayAsCut_3 rfl ?_
          refine r_iconst (v := 3) rfl dX3_sayAsCut_5 (by decide) ?_
          refine r_icmp_ge (tgt := 113) rfl rfl dX3_sayAsCut_6 (fun _ => ?_) (fun c => absurd c (by decide))
          exact r_ret dX3_sayAsCut_113 (rt_v rfl) rfl
      · refine r_aload_n rfl dX3_sayAsCut_38 rfl ?_
        obtain ⟨y222, y223, y224, y225, y226, y227, f221⟩ := hS152.ln hi
        refine r_getv 0 rfl dX3_sayAsCut_39 (show 2 ≤ 100 + 8 * i ∧ 100 + 8 * i < 434 by omega) f221 fl_X3_11 rfl ?_
        refine r_iload rfl dX3_sayAsCut_42 rfl ?_
        refine r_aald (jn := 2) (v := .ref (102 + 8 * i + 2 * 2)) rfl dX3_sayAsCut_44 (show 2 ≤ 101 + 8 * i ∧ 101 + 8 * i < 434 by omega).1 (show 2 ≤ 101 + 8 * i ∧ 101 + 8 * i < 434 by omega).2 (hS152.say hi) (by decide) (by unfold vp_in; decide) rfl (by show va_rf (if _ < _ then _ else _) = _; rw [if_pos (show 2 < 3 by decide)]; rfl) ?_
        refine r_aload_n rfl dX3_sayAsCut_45 rfl ?_
        refine r_getv 6 rfl dX3_sayAsCut_46 (show 2 ≤ 100 + 8 * i ∧ 100 + 8 * i < 434 by omega) f221 fl_X3_24 rfl ?_
        refine r_aload rfl dX3_sayAsCut_49 rfl ?_
        refine r_aload rfl dX3_sayAsCut_51 rfl ?_
        obtain ⟨g230, hw231⟩ := hS152.ws (wsAt_ln hi (w := 2) (show 2 < 3 by decide))
        obtain ⟨g233, hw234⟩ := hS152.ws (wsAt_ln hl (w := 2) (show 2 < 3 by decide))
        obtain ⟨g236, hw237⟩ := hS152.ws (wsAt_ln hj (w := 2) (show 2 < 3 by decide))
        refine cl_X3_60 rfl rfl dX3_sayAsCut_53 (show _ ∧ _ from ⟨(wsAt_ln hi (w := 2) (show 2 < 3 by decide)).2.2.1, Nat.lt_of_succ_lt (wsAt_ln hi (w := 2) (show 2 < 3 by decide)).2.2.2⟩).1 (show _ ∧ _ from ⟨(wsAt_ln hi (w := 2) (show 2 < 3 by decide)).2.2.1, Nat.lt_of_succ_lt (wsAt_ln hi (w := 2) (show 2 < 3 by decide)).2.2.2⟩).2 hw231.2.2.1 (Nat.le_of_ble_eq_true rfl) ((s_X10_choose hw231 hw234 hw237 (by omega) (by omega)).sh hS152) ?_
        rintro _ h238 _ ⟨⟨rfl, -, rfl⟩, -, hS239, -⟩
        refine r_goto (pc' := 107) rfl dX3_sayAsCut_56 ?_
        refine r_iinc (y := 3) (ls' := [some (.ref (100 + 8 * i)), some (.ref (100 + 8 * j)), some (.ref (100 + 8 * l)), some (.int o), some (.int 3), some (.ref (102 + 8 * j + 2 * 2)), some (.ref (102 + 8 * l + 2 * 2))]) rfl dX3_sayAsCut_107 rfl (by decide) (Nat.le_of_ble_eq_true rfl) rfl ?_
        refine r_goto (pc' := 3) rfl dX3_sayAsCut_110 ?_
        refine r_iload rfl dX3_sayAsCut_3 rfl ?_
        refine r_iconst (v := 3) rfl dX3_sayAsCut_5 (by decide) ?_
        refine r_icmp_ge (tgt := 113) rfl rfl dX3_sayAsCut_6 (fun _ => ?_) (fun c => absurd c (by decide))
        exact r_ret dX3_sayAsCut_113 (rt_v rfl) rfl
    · refine r_aload_n rfl dX3_sayAsCut_80 rfl ?_
      obtain ⟨y241, y242, y243, y244, y245, y246, f240⟩ := hS133.ln hi
      refine r_getv 0 rfl dX3_sayAsCut_81 (show 2 ≤ 100 + 8 * i ∧ 100 + 8 * i < 434 by omega) f240 fl_X3_11 rfl ?_
      refine r_iload rfl dX3_sayAsCut_84 rfl ?_
      refine r_aald (jn := 1) (v := .ref (102 + 8 * i + 2 * 1)) rfl dX3_sayAsCut_86 (show 2 ≤ 101 + 8 * i ∧ 101 + 8 * i < 434 by omega).1 (show 2 ≤ 101 + 8 * i ∧ 101 + 8 * i < 434 by omega).2 (hS133.say hi) (by decide) (by unfold vp_in; decide) rfl (by show va_rf (if _ < _ then _ else _) = _; rw [if_pos (show 1 < 3 by decide)]; rfl) ?_
      refine r_aload rfl dX3_sayAsCut_87 rfl ?_
      obtain ⟨g249, hw250⟩ := hS133.ws (wsAt_ln hi (w := 1) (show 1 < 3 by decide))
      obtain ⟨g252, hw253⟩ := hS133.ws (wsAt_ln hl (w := 1) (show 1 < 3 by decide))
      refine cl_X3_72 rfl rfl dX3_sayAsCut_89 (show _ ∧ _ from ⟨(wsAt_ln hi (w := 1) (show 1 < 3 by decide)).2.2.1, Nat.lt_of_succ_lt (wsAt_ln hi (w := 1) (show 1 < 3 by decide)).2.2.2⟩).1 (show _ ∧ _ from ⟨(wsAt_ln hi (w := 1) (show 1 < 3 by decide)).2.2.1, Nat.lt_of_succ_lt (wsAt_ln hi (w := 1) (show 1 < 3 by decide)).2.2.2⟩).2 hw250.2.2.1 (Nat.le_of_ble_eq_true rfl) ((s_X10_join hw250 hw253 (by omega)).sh hS133) ?_
      rintro _ h254 _ ⟨⟨rfl, -, rfl⟩, -, hS255, -⟩
      refine r_goto (pc' := 107) rfl dX3_sayAsCut_92 ?_
      refine r_iinc (y := 2) (ls' := [some (.ref (100 + 8 * i)), some (.ref (100 + 8 * j)), some (.ref (100 + 8 * l)), some (.int o), some (.int 2), some (.ref (102 + 8 * j + 2 * 1)), some (.ref (102 + 8 * l + 2 * 1))]) rfl dX3_sayAsCut_107 rfl (by decide) (Nat.le_of_ble_eq_true rfl) rfl ?_
      refine r_goto (pc' := 3) rfl dX3_sayAsCut_110 ?_
      refine r_iload rfl dX3_sayAsCut_3 rfl ?_
      refine r_iconst (v := 3) rfl dX3_sayAsCut_5 (by decide) ?_
      refine r_icmp_ge (tgt := 113) rfl rfl dX3_sayAsCut_6 (fun c => absurd c (by decide)) (fun _ => ?_)
      refine r_aload_n rfl dX3_sayAsCut_9 rfl ?_
      obtain ⟨y257, y258, y259, y260, y261, y262, f256⟩ := hS255.ln hj
      refine r_getv 0 rfl dX3_sayAsCut_10 (show 2 ≤ 100 + 8 * j ∧ 100 + 8 * j < 434 by omega) f256 fl_X3_11 rfl ?_
      refine r_iload rfl dX3_sayAsCut_13 rfl ?_
      refine r_aald (jn := 2) (v := .ref (102 + 8 * j + 2 * 2)) rfl dX3_sayAsCut_15 (show 2 ≤ 101 + 8 * j ∧ 101 + 8 * j < 434 by omega).1 (show 2 ≤ 101 + 8 * j ∧ 101 + 8 * j < 434 by omega).2 (hS255.say hj) (by decide) (by unfold vp_in; decide) rfl (by show va_rf (if _ < _ then _ else _) = _; rw [if_pos (show 2 < 3 by decide)]; rfl) ?_
      refine r_astore (ls' := [some (.ref (100 + 8 * i)), some (.ref (100 + 8 * j)), some (.ref (100 + 8 * l)), some (.int o), some (.int 2), some (.ref (102 + 8 * j + 2 * 2)), some (.ref (102 + 8 * l + 2 * 1))]) rfl dX3_sayAsCut_16 (Nat.le_of_ble_eq_true rfl) rfl ?_
      refine r_aload_n rfl dX3_sayAsCut_18 rfl ?_
      obtain ⟨y265, y266, y267, y268, y269, y270, f264⟩ := hS255.ln hl
      refine r_getv 0 rfl dX3_sayAsCut_19 (show 2 ≤ 100 + 8 * l ∧ 100 + 8 * l < 434 by omega) f264 fl_X3_11 rfl ?_
      refine r_iload rfl dX3_sayAsCut_22 rfl ?_
      refine r_aald (jn := 2) (v := .ref (102 + 8 * l + 2 * 2)) rfl dX3_sayAsCut_24 (show 2 ≤ 101 + 8 * l ∧ 101 + 8 * l < 434 by omega).1 (show 2 ≤ 101 + 8 * l ∧ 101 + 8 * l < 434 by omega).2 (hS255.say hl) (by decide) (by unfold vp_in; decide) rfl (by show va_rf (if _ < _ then _ else _) = _; rw [if_pos (show 2 < 3 by decide)]; rfl) ?_
      refine r_astore (ls' := [some (.ref (100 + 8 * i)), some (.ref (100 + 8 * j)), some (.ref (100 + 8 * l)), some (.int o), some (.int 2), some (.ref (102 + 8 * j + 2 * 2)), some (.ref (102 + 8 * l + 2 * 2))]) rfl dX3_sayAsCut_25 (Nat.le_of_ble_eq_true rfl) rfl ?_
      refine r_iload rfl dX3_sayAsCut_27 rfl ?_
      refine r_iconst (v := 2) rfl dX3_sayAsCut_29 (by decide) ?_
      refine r_icmp_ne (tgt := 59) rfl rfl dX3_sayAsCut_30 (fun c => absurd c (by decide)) (fun _ => ?_)
      refine r_iload_n rfl dX3_sayAsCut_33 rfl ?_
      refine r_iconst (v := 3) rfl dX3_sayAsCut_34 (by decide) ?_
      refine r_icmp_ne (tgt := 59) rfl rfl dX3_sayAsCut_35 (fun c272 => ?_) (fun c272 => ?_)
      · refine r_aload_n rfl dX3_sayAsCut_59 rfl ?_
        obtain ⟨y274, y275, y276, y277, y278, y279, f273⟩ := hS255.ln hi
        refine r_getv 0 rfl dX3_sayAsCut_60 (show 2 ≤ 100 + 8 * i ∧ 100 + 8 * i < 434 by omega) f273 fl_X3_11 rfl ?_
        refine r_iload rfl dX3_sayAsCut_63 rfl ?_
        refine r_aald (jn := 2) (v := .ref (102 + 8 * i + 2 * 2)) rfl dX3_sayAsCut_65 (show 2 ≤ 101 + 8 * i ∧ 101 + 8 * i < 434 by omega).1 (show 2 ≤ 101 + 8 * i ∧ 101 + 8 * i < 434 by omega).2 (hS255.say hi) (by decide) (by unfold vp_in; decide) rfl (by show va_rf (if _ < _ then _ else _) = _; rw [if_pos (show 2 < 3 by decide)]; rfl) ?_
        refine r_aload rfl dX3_sayAsCut_66 rfl ?_
        obtain ⟨g282, hw283⟩ := hS255.ws (wsAt_ln hi (w := 2) (show 2 < 3 by decide))
        obtain ⟨g285, hw286⟩ := hS255.ws (wsAt_ln hj (w := 2) (show 2 < 3 by decide))
        refine cl_X3_64 rfl rfl dX3_sayAsCut_68 (show _ ∧ _ from ⟨(wsAt_ln hi (w := 2) (show 2 < 3 by decide)).2.2.1, Nat.lt_of_succ_lt (wsAt_ln hi (w := 2) (show 2 < 3 by decide)).2.2.2⟩).1 (show _ ∧ _ from ⟨(wsAt_ln hi (w := 2) (show 2 < 3 by decide)).2.2.1, Nat.lt_of_succ_lt (wsAt_ln hi (w := 2) (show 2 < 3 by decide)).2.2.2⟩).2 hw283.2.2.1 (Nat.le_of_ble_eq_true rfl) ((s_X10_become hw283 hw286 (by omega)).sh hS255) ?_
        rintro _ h287 _ ⟨⟨rfl, -, rfl⟩, -, hS288, -⟩
        refine r_iload rfl dX3_sayAsCut_71 rfl ?_
        refine r_iload_n rfl dX3_sayAsCut_73 rfl ?_
        refine cl_X3_68 rfl rfl dX3_sayAsCut_74 (Nat.le_of_ble_eq_true rfl) s_X3_joins ?_
        rintro _ h289 _ ⟨rfl, e290, rfl⟩
        replace e290 := e290.symm
        subst e290
        refine r_if_eq (tgt := 95) rfl rfl dX3_sayAsCut_77 (fun c291 => ?_) (fun c291 => ?_)
        · refine r_aload_n rfl dX3_sayAsCut_95 rfl ?_
          obtain ⟨y293, y294, y295, y296, y297, y298, f292⟩ := hS288.ln hi
          refine r_getv 0 rfl dX3_sayAsCut_96 (show 2 ≤ 100 + 8 * i ∧ 100 + 8 * i < 434 by omega) f292 fl_X3_11 rfl ?_
          refine r_iload rfl dX3_sayAsCut_99 rfl ?_
          refine r_aald (jn := 2) (v := .ref (102 + 8 * i + 2 * 2)) rfl dX3_sayAsCut_101 (show 2 ≤ 101 + 8 * i ∧ 101 + 8 * i < 434 by omega).1 (show 2 ≤ 101 + 8 * i ∧ 101 + 8 * i < 434 by omega).2 (hS288.say hi) (by decide) (by unfold vp_in; decide) rfl (by show va_rf (if _ < _ then _ else _) = _; rw [if_pos (show 2 < 3 by decide)]; rfl) ?_
          refine r_aload rfl dX3_sayAsCut_102 rfl ?_
          obtain ⟨g301, hw302⟩ := hS288.ws (wsAt_ln hi (w := 2) (show 2 < 3 by decide))
          obtain ⟨g304, hw305⟩ := hS288.ws (wsAt_ln hl (w := 2) (show 2 < 3 by decide))
          refine cl_X3_75 rfl rfl dX3_sayAsCut_104 (show _ ∧ _ from ⟨(wsAt_ln hi (w := 2) (show 2 < 3 by decide)).2.2.1, Nat.lt_of_succ_lt (wsAt_ln hi (w := 2) (show 2 < 3 by decide)).2.2.2⟩).1 (show _ ∧ _ from ⟨(wsAt_ln hi (w := 2) (show 2 < 3 by decide)).2.2.1, Nat.lt_of_succ_lt (wsAt_ln hi (w := 2) (show 2 < 3 by decide)).2.2.2⟩).2 hw302.2.2.1 (Nat.le_of_ble_eq_true rfl) ((s_X10_meet hw302 hw305 (by omega)).sh hS288) ?_
          rintro _ h306 _ ⟨⟨rfl, -, rfl⟩, -, hS307, -⟩
          refine r_iinc (y := 3) (ls' := [some (.ref (100 + 8 * i)), some (.ref (100 + 8 * j)), some (.ref (100 + 8 * l)), some (.int o), some (.int 3), some (.ref (102 + 8 * j + 2 * 2)), some (.ref (102 + 8 * l + 2 * 2))]) rfl dX3_sayAsCut_107 rfl (by decide) (Nat.le_of_ble_eq_true rfl) rfl ?_
          refine r_goto (pc' := 3) rfl dX3_sayAsCut_110 ?_
          refine r_iload rfl dX3_sayAsCut_3 rfl ?_
          refine r_iconst (v := 3) rfl dX3_sayAsCut_5 (by decide) ?_
          refine r_icmp_ge (tgt := 113) rfl rfl dX3_sayAsCut_6 (fun _ => ?_) (fun c => absurd c (by decide))
          exact r_ret dX3_sayAsCut_113 (rt_v rfl) rfl
        · refine r_aload_n rfl dX3_sayAsCut_80 rfl ?_
          obtain ⟨y309, y310, y311, y312, y313, y314, f308⟩ := hS288.ln hi
          refine r_getv 0 rfl dX3_sayAsCut_81 (show 2 ≤ 100 + 8 * i ∧ 100 + 8 * i < 434 by omega) f308 fl_X3_11 rfl ?_
          refine r_iload rfl dX3_sayAsCut_84 rfl ?_
          refine r_aald (jn := 2) (v := .ref (102 + 8 * i + 2 * 2)) rfl dX3_sayAsCut_86 (show 2 ≤ 101 + 8 * i ∧ 101 + 8 * i < 434 by omega).1 (show 2 ≤ 101 + 8 * i ∧ 101 + 8 * i < 434 by omega).2 (hS288.say hi) (by decide) (by unfold vp_in; decide) rfl (by show va_rf (if _ < _ then _ else _) = _; rw [if_pos (show 2 < 3 by decide)]; rfl) ?_
          refine r_aload rfl dX3_sayAsCut_87 rfl ?_
          obtain ⟨g317, hw318⟩ := hS288.ws (wsAt_ln hi (w := 2) (show 2 < 3 by decide))
          obtain ⟨g320, hw321⟩ := hS288.ws (wsAt_ln hl (w := 2) (show 2 < 3 by decide))
          refine cl_X3_72 rfl rfl dX3_sayAsCut_89 (show _ ∧ _ from ⟨(wsAt_ln hi (w := 2) (show 2 < 3 by decide)).2.2.1, Nat.lt_of_succ_lt (wsAt_ln hi (w := 2) (show 2 < 3 by decide)).2.2.2⟩).1 (show _ ∧ _ from ⟨(wsAt_ln hi (w := 2) (show 2 < 3 by decide)).2.2.1, Nat.lt_of_succ_lt (wsAt_ln hi (w := 2) (show 2 < 3 by decide)).2.2.2⟩).2 hw318.2.2.1 (Nat.le_of_ble_eq_true rfl) ((s_X10_join hw318 hw321 (by omega)).sh hS288) ?_
          rintro _ h322 _ ⟨⟨rfl, -, rfl⟩, -, hS323, -⟩
          refine r_goto (pc' := 107) rfl dX3_sayAsCut_92 ?_
          refine r_iinc (y := 3) (ls' := [some (.ref (100 + 8 * i)), some (.ref (100 + 8 * j)), some (.ref (100 + 8 * l)), some (.int o), some (.int 3), some (.ref (102 + 8 * j + 2 * 2)), some (.ref (102 + 8 * l + 2 * 2))]) rfl dX3_sayAsCut_107 rfl (by decide) (Nat.le_of_ble_eq_true rfl) rfl ?_
          refine r_goto (pc' := 3) rfl dX3_sayAsCut_110 ?_
          refine r_iload rfl dX3_sayAsCut_3 rfl ?_
          refine r_iconst (v := 3) rfl dX3_sayAsCut_5 (by decide) ?_
          refine r_icmp_ge (tgt := 113) rfl rfl dX3_sayAsCut_6 (fun _ => ?_) (fun c => absurd c (by decide))
          exact r_ret dX3_sayAsCut_113 (rt_v rfl) rfl
      · refine r_aload_n rfl dX3_sayAsCut_38 rfl ?_
        obtain ⟨y325, y326, y327, y328, y329, y330, f324⟩ := hS255.ln hi
        refine r_getv 0 rfl dX3_sayAsCut_39 (show 2 ≤ 100 + 8 * i ∧ 100 + 8 * i < 434 by omega) f324 fl_X3_11 rfl ?_
        refine r_iload rfl dX3_sayAsCut_42 rfl ?_
        refine r_aald (jn := 2) (v := .ref (102 + 8 * i + 2 * 2)) rfl dX3_sayAsCut_44 (show 2 ≤ 101 + 8 * i ∧ 101 + 8 * i < 434 by omega).1 (show 2 ≤ 101 + 8 * i ∧ 101 + 8 * i < 434 by omega).2 (hS255.say hi) (by decide) (by unfold vp_in; decide) rfl (by show va_rf (if _ < _ then _ else _) = _; rw [if_pos (show 2 < 3 by decide)]; rfl) ?_
        refine r_aload_n rfl dX3_sayAsCut_45 rfl ?_
        refine r_getv 6 rfl dX3_sayAsCut_46 (show 2 ≤ 100 + 8 * i ∧ 100 + 8 * i < 434 by omega) f324 fl_X3_24 rfl ?_
        refine r_aload rfl dX3_sayAsCut_49 rfl ?_
        refine r_aload rfl dX3_sayAsCut_51 rfl ?_
        obtain ⟨g333, hw334⟩ := hS255.ws (wsAt_ln hi (w := 2) (show 2 < 3 by decide))
        obtain ⟨g336, hw337⟩ := hS255.ws (wsAt_ln hl (w := 2) (show 2 < 3 by decide))
        obtain ⟨g339, hw340⟩ := hS255.ws (wsAt_ln hj (w := 2) (show 2 < 3 by decide))
        refine cl_X3_60 rfl rfl dX3_sayAsCut_53 (show _ ∧ _ from ⟨(wsAt_ln hi (w := 2) (show 2 < 3 by decide)).2.2.1, Nat.lt_of_succ_lt (wsAt_ln hi (w := 2) (show 2 < 3 by decide)).2.2.2⟩).1 (show _ ∧ _ from ⟨(wsAt_ln hi (w := 2) (show 2 < 3 by decide)).2.2.1, Nat.lt_of_succ_lt (wsAt_ln hi (w := 2) (show 2 < 3 by decide)).2.2.2⟩).2 hw334.2.2.1 (Nat.le_of_ble_eq_true rfl) ((s_X10_choose hw334 hw337 hw340 (by omega) (by omega)).sh hS255) ?_
        rintro _ h341 _ ⟨⟨rfl, -, rfl⟩, -, hS342, -⟩
        refine r_goto (pc' := 107) rfl dX3_sayAsCut_56 ?_
        refine r_iinc (y := 3) (ls' := [some (.ref (100 + 8 * i)), some (.ref (100 + 8 * j)), some (.ref (100 + 8 * l)), some (.int o), some (.int 3), some (.ref (102 + 8 * j + 2 * 2)), some (.ref (102 + 8 * l + 2 * 2))]) rfl dX3_sayAsCut_107 rfl (by decide) (Nat.le_of_ble_eq_true rfl) rfl ?_
        refine r_goto (pc' := 3) rfl dX3_sayAsCut_110 ?_
        refine r_iload rfl dX3_sayAsCut_3 rfl ?_
        refine r_iconst (v := 3) rfl dX3_sayAsCut_5 (by decide) ?_
        refine r_icmp_ge (tgt := 113) rfl rfl dX3_sayAsCut_6 (fun _ => ?_) (fun c => absurd c (by decide))
        exact r_ret dX3_sayAsCut_113 (rt_v rfl) rfl
  · refine r_aload_n rfl dX3_sayAsCut_80 rfl ?_
    obtain ⟨y344, y345, y346, y347, y348, y349, f343⟩ := hS82.ln hi
    refine r_getv 0 rfl dX3_sayAsCut_81 (show 2 ≤ 100 + 8 * i ∧ 100 + 8 * i < 434 by omega) f343 fl_X3_11 rfl ?_
    refine r_iload rfl dX3_sayAsCut_84 rfl ?_
    refine r_aald (jn := 0) (v := .ref (102 + 8 * i + 2 * 0)) rfl dX3_sayAsCut_86 (show 2 ≤ 101 + 8 * i ∧ 101 + 8 * i < 434 by omega).1 (show 2 ≤ 101 + 8 * i ∧ 101 + 8 * i < 434 by omega).2 (hS82.say hi) (by decide) (by unfold vp_in; decide) rfl (by show va_rf (if _ < _ then _ else _) = _; rw [if_pos (show 0 < 3 by decide)]; rfl) ?_
    refine r_aload rfl dX3_sayAsCut_87 rfl ?_
    obtain ⟨g352, hw353⟩ := hS82.ws (wsAt_ln hi (w := 0) (show 0 < 3 by decide))
    obtain ⟨g355, hw356⟩ := hS82.ws (wsAt_ln hl (w := 0) (show 0 < 3 by decide))
    refine cl_X3_72 rfl rfl dX3_sayAsCut_89 (show _ ∧ _ from ⟨(wsAt_ln hi (w := 0) (show 0 < 3 by decide)).2.2.1, Nat.lt_of_succ_lt (wsAt_ln hi (w := 0) (show 0 < 3 by decide)).2.2.2⟩).1 (show _ ∧ _ from ⟨(wsAt_ln hi (w := 0) (show 0 < 3 by decide)).2.2.1, Nat.lt_of_succ_lt (wsAt_ln hi (w := 0) (show 0 < 3 by decide)).2.2.2⟩).2 hw353.2.2.1 (Nat.le_of_ble_eq_true rfl) ((s_X10_join hw353 hw356 (by omega)).sh hS82) ?_
    rintro _ h357 _ ⟨⟨rfl, -, rfl⟩, -, hS358, -⟩
    refine r_goto (pc' := 107) rfl dX3_sayAsCut_92 ?_
    refine r_iinc (y := 1) (ls' := [some (.ref (100 + 8 * i)), some (.ref (100 + 8 * j)), some (.ref (100 + 8 * l)), some (.int o), some (.int 1), some (.ref (102 + 8 * j + 2 * 0)), some (.ref (102 + 8 * l + 2 * 0))]) rfl dX3_sayAsCut_107 rfl (by decide) (Nat.le_of_ble_eq_true rfl) rfl ?_
    refine r_goto (pc' := 3) rfl dX3_sayAsCut_110 ?_
    refine r_iload rfl dX3_sayAsCut_3 rfl ?_
    refine r_iconst (v := 3) rfl dX3_sayAsCut_5 (by decide) ?_
    refine r_icmp_ge (tgt := 113) rfl rfl dX3_sayAsCut_6 (fun c => absurd c (by decide)) (fun _ => ?_)
    refine r_aload_n rfl dX3_sayAsCut_9 rfl ?_
    obtain ⟨y360, y361, y362, y363, y364, y365, f359⟩ := hS358.ln hj
    refine r_getv 0 rfl dX3_sayAsCut_10 (show 2 ≤ 100 + 8 * j ∧ 100 + 8 * j < 434 by omega) f359 fl_X3_11 rfl ?_
    refine r_iload rfl dX3_sayAsCut_13 rfl ?_
    refine r_aald (jn := 1) (v := .ref (102 + 8 * j + 2 * 1)) rfl dX3_sayAsCut_15 (show 2 ≤ 101 + 8 * j ∧ 101 + 8 * j < 434 by omega).1 (show 2 ≤ 101 + 8 * j ∧ 101 + 8 * j < 434 by omega).2 (hS358.say hj) (by decide) (by unfold vp_in; decide) rfl (by show va_rf (if _ < _ then _ else _) = _; rw [if_pos (show 1 < 3 by decide)]; rfl) ?_
    refine r_astore (ls' := [some (.ref (100 + 8 * i)), some (.ref (100 + 8 * j)), some (.ref (100 + 8 * l)), some (.int o), some (.int 1), some (.ref (102 + 8 * j + 2 * 1)), some (.ref (102 + 8 * l + 2 * 0))]) rfl dX3_sayAsCut_16 (Nat.le_of_ble_eq_true rfl) rfl ?_
    refine r_aload_n rfl dX3_sayAsCut_18 rfl ?_
    obtain ⟨y368, y369, y370, y371, y372, y373, f367⟩ := hS358.ln hl
    refine r_getv 0 rfl dX3_sayAsCut_19 (show 2 ≤ 100 + 8 * l ∧ 100 + 8 * l < 434 by omega) f367 fl_X3_11 rfl ?_
    refine r_iload rfl dX3_sayAsCut_22 rfl ?_
    refine r_aald (jn := 1) (v := .ref (102 + 8 * l + 2 * 1)) rfl dX3_sayAsCut_24 (show 2 ≤ 101 + 8 * l ∧ 101 + 8 * l < 434 by omega).1 (show 2 ≤ 101 + 8 * l ∧ 101 + 8 * l < 434 by omega).2 (hS358.say hl) (by decide) (by unfold vp_in; decide) rfl (by show va_rf (if _ < _ then _ else _) = _; rw [if_pos (show 1 < 3 by decide)]; rfl) ?_
    refine r_astore (ls' := [some (.ref (100 + 8 * i)), some (.ref (100 + 8 * j)), some (.ref (100 + 8 * l)), some (.int o), some (.int 1), some (.ref (102 + 8 * j + 2 * 1)), some (.ref (102 + 8 * l + 2 * 1))]) rfl dX3_sayAsCut_25 (Nat.le_of_ble_eq_true rfl) rfl ?_
    refine r_iload rfl dX3_sayAsCut_27 rfl ?_
    refine r_iconst (v := 2) rfl dX3_sayAsCut_29 (by decide) ?_
    refine r_icmp_ne (tgt := 59) rfl rfl dX3_sayAsCut_30 (fun _ => ?_) (fun c => absurd c (by decide))
    refine r_aload_n rfl dX3_sayAsCut_59 rfl ?_
    obtain ⟨y376, y377, y378, y379, y380, y381, f375⟩ := hS358.ln hi
    refine r_getv 0 rfl dX3_sayAsCut_60 (show 2 ≤ 100 + 8 * i ∧ 100 + 8 * i < 434 by omega) f375 fl_X3_11 rfl ?_
    refine r_iload rfl dX3_sayAsCut_63 rfl ?_
    refine r_aald (jn := 1) (v := .ref (102 + 8 * i + 2 * 1)) rfl dX3_sayAsCut_65 (show 2 ≤ 101 + 8 * i ∧ 101 + 8 * i < 434 by omega).1 (show 2 ≤ 101 + 8 * i ∧ 101 + 8 * i < 434 by omega).2 (hS358.say hi) (by decide) (by unfold vp_in; decide) rfl (by show va_rf (if _ < _ then _ else _) = _; rw [if_pos (show 1 < 3 by decide)]; rfl) ?_
    refine r_aload rfl dX3_sayAsCut_66 rfl ?_
    obtain ⟨g384, hw385⟩ := hS358.ws (wsAt_ln hi (w := 1) (show 1 < 3 by decide))
    obtain ⟨g387, hw388⟩ := hS358.ws (wsAt_ln hj (w := 1) (show 1 < 3 by decide))
    refine cl_X3_64 rfl rfl dX3_sayAsCut_68 (show _ ∧ _ from ⟨(wsAt_ln hi (w := 1) (show 1 < 3 by decide)).2.2.1, Nat.lt_of_succ_lt (wsAt_ln hi (w := 1) (show 1 < 3 by decide)).2.2.2⟩).1 (show _ ∧ _ from ⟨(wsAt_ln hi (w := 1) (show 1 < 3 by decide)).2.2.1, Nat.lt_of_succ_lt (wsAt_ln hi (w := 1) (show 1 < 3 by decide)).2.2.2⟩).2 hw385.2.2.1 (Nat.le_of_ble_eq_true rfl) ((s_X10_become hw385 hw388 (by omega)).sh hS358) ?_
    rintro _ h389 _ ⟨⟨rfl, -, rfl⟩, -, hS390, -⟩
    refine r_iload rfl dX3_sayAsCut_71 rfl ?_
    refine r_iload_n rfl dX3_sayAsCut_73 rfl ?_
    refine cl_X3_68 rfl rfl dX3_sayAsCut_74 (Nat.le_of_ble_eq_true rfl) s_X3_joins ?_
    rintro _ h391 _ ⟨rfl, e392, rfl⟩
    replace e392 := e392.symm
    subst e392
    refine r_if_eq (tgt := 95) rfl rfl dX3_sayAsCut_77 (fun c393 => ?_) (fun c393 => ?_)
    · refine r_aload_n rfl dX3_sayAsCut_95 rfl ?_
      obtain ⟨y395, y396, y397, y398, y399, y400, f394⟩ := hS390.ln hi
      refine r_getv 0 rfl dX3_sayAsCut_96 (show 2 ≤ 100 + 8 * i ∧ 100 + 8 * i < 434 by omega) f394 fl_X3_11 rfl ?_
      refine r_iload rfl dX3_sayAsCut_99 rfl ?_
      refine r_aald (jn := 1) (v := .ref (102 + 8 * i + 2 * 1)) rfl dX3_sayAsCut_101 (show 2 ≤ 101 + 8 * i ∧ 101 + 8 * i < 434 by omega).1 (show 2 ≤ 101 + 8 * i ∧ 101 + 8 * i < 434 by omega).2 (hS390.say hi) (by decide) (by unfold vp_in; decide) rfl (by show va_rf (if _ < _ then _ else _) = _; rw [if_pos (show 1 < 3 by decide)]; rfl) ?_
      refine r_aload rfl dX3_sayAsCut_102 rfl ?_
      obtain ⟨g403, hw404⟩ := hS390.ws (wsAt_ln hi (w := 1) (show 1 < 3 by decide))
      obtain ⟨g406, hw407⟩ := hS390.ws (wsAt_ln hl (w := 1) (show 1 < 3 by decide))
      refine cl_X3_75 rfl rfl dX3_sayAsCut_104 (show _ ∧ _ from ⟨(wsAt_ln hi (w := 1) (show 1 < 3 by decide)).2.2.1, Nat.lt_of_succ_lt (wsAt_ln hi (w := 1) (show 1 < 3 by decide)).2.2.2⟩).1 (show _ ∧ _ from ⟨(wsAt_ln hi (w := 1) (show 1 < 3 by decide)).2.2.1, Nat.lt_of_succ_lt (wsAt_ln hi (w := 1) (show 1 < 3 by decide)).2.2.2⟩).2 hw404.2.2.1 (Nat.le_of_ble_eq_true rfl) ((s_X10_meet hw404 hw407 (by omega)).sh hS390) ?_
      rintro _ h408 _ ⟨⟨rfl, -, rfl⟩, -, hS409, -⟩
      refine r_iinc (y := 2) (ls' := [some (.ref (100 + 8 * i)), some (.ref (100 + 8 * j)), some (.ref (100 + 8 * l)), some (.int o), some (.int 2), some (.ref (102 + 8 * j + 2 * 1)), some (.ref (102 + 8 * l + 2 * 1))]) rfl dX3_sayAsCut_107 rfl (by decide) (Nat.le_of_ble_eq_true rfl) rfl ?_
      refine r_goto (pc' := 3) rfl dX3_sayAsCut_110 ?_
      refine r_iload rfl dX3_sayAsCut_3 rfl ?_
      refine r_iconst (v := 3) rfl dX3_sayAsCut_5 (by decide) ?_
      refine r_icmp_ge (tgt := 113) rfl rfl dX3_sayAsCut_6 (fun c => absurd c (by decide)) (fun _ => ?_)
      refine r_aload_n rfl dX3_sayAsCut_9 rfl ?_
      obtain ⟨y411, y412, y413, y414, y415, y416, f410⟩ := hS409.ln hj
      refine r_getv 0 rfl dX3_sayAsCut_10 (show 2 ≤ 100 + 8 * j ∧ 100 + 8 * j < 434 by omega) f410 fl_X3_11 rfl ?_
      refine r_iload rfl dX3_sayAsCut_13 rfl ?_
      refine r_aald (jn := 2) (v := .ref (102 + 8 * j + 2 * 2)) rfl dX3_sayAsCut_15 (show 2 ≤ 101 + 8 * j ∧ 101 + 8 * j < 434 by omega).1 (show 2 ≤ 101 + 8 * j ∧ 101 + 8 * j < 434 by omega).2 (hS409.say hj) (by decide) (by unfold vp_in; decide) rfl (by show va_rf (if _ < _ then _ else _) = _; rw [if_pos (show 2 < 3 by decide)]; rfl) ?_
      refine r_astore (ls' := [some (.ref (100 + 8 * i)), some (.ref (100 + 8 * j)), some (.ref (100 + 8 * l)), some (.int o), some (.int 2), some (.ref (102 + 8 * j + 2 * 2)), some (.ref (102 + 8 * l + 2 * 1))]) rfl dX3_sayAsCut_16 (Nat.le_of_ble_eq_true rfl) rfl ?_
      refine r_aload_n rfl dX3_sayAsCut_18 rfl ?_
      obtain ⟨y419, y420, y421, y422, y423, y424, f418⟩ := hS409.ln hl
      refine r_getv 0 rfl dX3_sayAsCut_19 (show 2 ≤ 100 + 8 * l ∧ 100 + 8 * l < 434 by omega) f418 fl_X3_11 rfl ?_
      refine r_iload rfl dX3_sayAsCut_22 rfl ?_
      refine r_aald (jn := 2) (v := .ref (102 + 8 * l + 2 * 2)) rfl dX3_sayAsCut_24 (show 2 ≤ 101 + 8 * l ∧ 101 + 8 * l < 434 by omega).1 (show 2 ≤ 101 + 8 * l ∧ 101 + 8 * l < 434 by omega).2 (hS409.say hl) (by decide) (by unfold vp_in; decide) rfl (by show va_rf (if _ < _ then _ else _) = _; rw [if_pos (show 2 < 3 by decide)]; rfl) ?_
      refine r_astore (ls' := [some (.ref (100 + 8 * i)), some (.ref (100 + 8 * j)), some (.ref (100 + 8 * l)), some (.int o), some (.int 2), some (.ref (102 + 8 * j + 2 * 2)), some (.ref (102 + 8 * l + 2 * 2))]) rfl dX3_sayAsCut_25 (Nat.le_of_ble_eq_true rfl) rfl ?_
      refine r_iload rfl dX3_sayAsCut_27 rfl ?_
      refine r_iconst (v := 2) rfl dX3_sayAsCut_29 (by decide) ?_
      refine r_icmp_ne (tgt := 59) rfl rfl dX3_sayAsCut_30 (fun c => absurd c (by decide)) (fun _ => ?_)
      refine r_iload_n rfl dX3_sayAsCut_33 rfl ?_
      refine r_iconst (v := 3) rfl dX3_sayAsCut_34 (by decide) ?_
      refine r_icmp_ne (tgt := 59) rfl rfl dX3_sayAsCut_35 (fun c426 => ?_) (fun c426 => ?_)
      · refine r_aload_n rfl dX3_sayAsCut_59 rfl ?_
        obtain ⟨y428, y429, y430, y431, y432, y433, f427⟩ := hS409.ln hi
        refine r_getv 0 rfl dX3_sayAsCut_60 (show 2 ≤ 100 + 8 * i ∧ 100 + 8 * i < 434 by omega) f427 fl_X3_11 rfl ?_
        refine r_iload rfl dX3_sayAsCut_63 rfl ?_
        refine r_aald (jn := 2) (v := .ref (102 + 8 * i + 2 * 2)) rfl dX3_sayAsCut_65 (show 2 ≤ 101 + 8 * i ∧ 101 + 8 * i < 434 by omega).1 (show 2 ≤ 101 + 8 * i ∧ 101 + 8 * i < 434 by omega).2 (hS409.say hi) (by decide) (by unfold vp_in; decide) rfl (by show va_rf (if _ < _ then _ else _) = _; rw [if_pos (show 2 < 3 by decide)]; rfl) ?_
        refine r_aload rfl dX3_sayAsCut_66 rfl ?_
        obtain ⟨g436, hw437⟩ := hS409.ws (wsAt_ln hi (w := 2) (show 2 < 3 by decide))
        obtain ⟨g439, hw440⟩ := hS409.ws (wsAt_ln hj (w := 2) (show 2 < 3 by decide))
        refine cl_X3_64 rfl rfl dX3_sayAsCut_68 (show _ ∧ _ from ⟨(wsAt_ln hi (w := 2) (show 2 < 3 by decide)).2.2.1, Nat.lt_of_succ_lt (wsAt_ln hi (w := 2) (show 2 < 3 by decide)).2.2.2⟩).1 (show _ ∧ _ from ⟨(wsAt_ln hi (w := 2) (show 2 < 3 by decide)).2.2.1, Nat.lt_of_succ_lt (wsAt_ln hi (w := 2) (show 2 < 3 by decide)).2.2.2⟩).2 hw437.2.2.1 (Nat.le_of_ble_eq_true rfl) ((s_X10_become hw437 hw440 (by omega)).sh hS409) ?_
        rintro _ h441 _ ⟨⟨rfl, -, rfl⟩, -, hS442, -⟩
        refine r_iload rfl dX3_sayAsCut_71 rfl ?_
        refine r_iload_n rfl dX3_sayAsCut_73 rfl ?_
        refine cl_X3_68 rfl rfl dX3_sayAsCut_74 (Nat.le_of_ble_eq_true rfl) s_X3_joins ?_
        rintro _ h443 _ ⟨rfl, e444, rfl⟩
        replace e444 := e444.symm
        subst e444
        refine r_if_eq (tgt := 95) rfl rfl dX3_sayAsCut_77 (fun c445 => ?_) (fun c445 => ?_)
        · refine r_aload_n rfl dX3_sayAsCut_95 rfl ?_
          obtain ⟨y447, y448, y449, y450, y451, y452, f446⟩ := hS442.ln hi
          refine r_getv 0 rfl dX3_sayAsCut_96 (show 2 ≤ 100 + 8 * i ∧ 100 + 8 * i < 434 by omega) f446 fl_X3_11 rfl ?_
          refine r_iload rfl dX3_sayAsCut_99 rfl ?_
          refine r_aald (jn := 2) (v := .ref (102 + 8 * i + 2 * 2)) rfl dX3_sayAsCut_101 (show 2 ≤ 101 + 8 * i ∧ 101 + 8 * i < 434 by omega).1 (show 2 ≤ 101 + 8 * i ∧ 101 + 8 * i < 434 by omega).2 (hS442.say hi) (by decide) (by unfold vp_in; decide) rfl (by show va_rf (if _ < _ then _ else _) = _; rw [if_pos (show 2 < 3 by decide)]; rfl) ?_
          refine r_aload rfl dX3_sayAsCut_102 rfl ?_
          obtain ⟨g455, hw456⟩ := hS442.ws (wsAt_ln hi (w := 2) (show 2 < 3 by decide))
          obtain ⟨g458, hw459⟩ := hS442.ws (wsAt_ln hl (w := 2) (show 2 < 3 by decide))
          refine cl_X3_75 rfl rfl dX3_sayAsCut_104 (show _ ∧ _ from ⟨(wsAt_ln hi (w := 2) (show 2 < 3 by decide)).2.2.1, Nat.lt_of_succ_lt (wsAt_ln hi (w := 2) (show 2 < 3 by decide)).2.2.2⟩).1 (show _ ∧ _ from ⟨(wsAt_ln hi (w := 2) (show 2 < 3 by decide)).2.2.1, Nat.lt_of_succ_lt (wsAt_ln hi (w := 2) (show 2 < 3 by decide)).2.2.2⟩).2 hw456.2.2.1 (Nat.le_of_ble_eq_true rfl) ((s_X10_meet hw456 hw459 (by omega)).sh hS442) ?_
          rintro _ h460 _ ⟨⟨rfl, -, rfl⟩, -, hS461, -⟩
          refine r_iinc (y := 3) (ls' := [some (.ref (100 + 8 * i)), some (.ref (100 + 8 * j)), some (.ref (100 + 8 * l)), some (.int o), some (.int 3), some (.ref (102 + 8 * j + 2 * 2)), some (.ref (102 + 8 * l + 2 * 2))]) rfl dX3_sayAsCut_107 rfl (by decide) (Nat.le_of_ble_eq_true rfl) rfl ?_
          refine r_goto (pc' := 3) rfl dX3_sayAsCut_110 ?_
          refine r_iload rfl dX3_sayAsCut_3 rfl ?_
          refine r_iconst (v := 3) rfl dX3_sayAsCut_5 (by decide) ?_
          refine r_icmp_ge (tgt := 113) rfl rfl dX3_sayAsCut_6 (fun _ => ?_) (fun c => absurd c (by decide))
          exact r_ret dX3_sayAsCut_113 (rt_v rfl) rfl
        · refine r_aload_n rfl dX3_sayAsCut_80 rfl ?_
          obtain ⟨y463, y464, y465, y466, y467, y468, f462⟩ := hS442.ln hi
          refine r_getv 0 rfl dX3_sayAsCut_81 (show 2 ≤ 100 + 8 * i ∧ 100 + 8 * i < 434 by omega) f462 fl_X3_11 rfl ?_
          refine r_iload rfl dX3_sayAsCut_84 rfl ?_
          refine r_aald (jn := 2) (v := .ref (102 + 8 * i + 2 * 2)) rfl dX3_sayAsCut_86 (show 2 ≤ 101 + 8 * i ∧ 101 + 8 * i < 434 by omega).1 (show 2 ≤ 101 + 8 * i ∧ 101 + 8 * i < 434 by omega).2 (hS442.say hi) (by decide) (by unfold vp_in; decide) rfl (by show va_rf (if _ < _ then _ else _) = _; rw [if_pos (show 2 < 3 by decide)]; rfl) ?_
          refine r_aload rfl dX3_sayAsCut_87 rfl ?_
          obtain ⟨g471, hw472⟩ := hS442.ws (wsAt_ln hi (w := 2) (show 2 < 3 by decide))
          obtain ⟨g474, hw475⟩ := hS442.ws (wsAt_ln hl (w := 2) (show 2 < 3 by decide))
          refine cl_X3_72 rfl rfl dX3_sayAsCut_89 (show _ ∧ _ from ⟨(wsAt_ln hi (w := 2) (show 2 < 3 by decide)).2.2.1, Nat.lt_of_succ_lt (wsAt_ln hi (w := 2) (show 2 < 3 by decide)).2.2.2⟩).1 (show _ ∧ _ from ⟨(wsAt_ln hi (w := 2) (show 2 < 3 by decide)).2.2.1, Nat.lt_of_succ_lt (wsAt_ln hi (w := 2) (show 2 < 3 by decide)).2.2.2⟩).2 hw472.2.2.1 (Nat.le_of_ble_eq_true rfl) ((s_X10_join hw472 hw475 (by omega)).sh hS442) ?_
          rintro _ h476 _ ⟨⟨rfl, -, rfl⟩, -, hS477, -⟩
          refine r_goto (pc' := 107) rfl dX3_sayAsCut_92 ?_
          refine r_iinc (y := 3) (ls' := [some (.ref (100 + 8 * i)), some (.ref (100 + 8 * j)), some (.ref (100 + 8 * l)), some (.int o), some (.int 3), some (.ref (102 + 8 * j + 2 * 2)), some (.ref (102 + 8 * l + 2 * 2))]) rfl dX3_sayAsCut_107 rfl (by decide) (Nat.le_of_ble_eq_true rfl) rfl ?_
          refine r_goto (pc' := 3) rfl dX3_sayAsCut_110 ?_
          refine r_iload rfl dX3_sayAsCut_3 rfl ?_
          refine r_iconst (v := 3) rfl dX3_sayAsCut_5 (by decide) ?_
          refine r_icmp_ge (tgt := 113) rfl rfl dX3_sayAsCut_6 (fun _ => ?_) (fun c => absurd c (by decide))
          exact r_ret dX3_sayAsCut_113 (rt_v rfl) rfl
      · refine r_aload_n rfl dX3_sayAsCut_38 rfl ?_
        obtain ⟨y479, y480, y481, y482, y483, y484, f478⟩ := hS409.ln hi
        refine r_getv 0 rfl dX3_sayAsCut_39 (show 2 ≤ 100 + 8 * i ∧ 100 + 8 * i < 434 by omega) f478 fl_X3_11 rfl ?_
        refine r_iload rfl dX3_sayAsCut_42 rfl ?_
        refine r_aald (jn := 2) (v := .ref (102 + 8 * i + 2 * 2)) rfl dX3_sayAsCut_44 (show 2 ≤ 101 + 8 * i ∧ 101 + 8 * i < 434 by omega).1 (show 2 ≤ 101 + 8 * i ∧ 101 + 8 * i < 434 by omega).2 (hS409.say hi) (by decide) (by unfold vp_in; decide) rfl (by show va_rf (if _ < _ then _ else _) = _; rw [if_pos (show 2 < 3 by decide)]; rfl) ?_
        refine r_aload_n rfl dX3_sayAsCut_45 rfl ?_
        refine r_getv 6 rfl dX3_sayAsCut_46 (show 2 ≤ 100 + 8 * i ∧ 100 + 8 * i < 434 by omega) f478 fl_X3_24 rfl ?_
        refine r_aload rfl dX3_sayAsCut_49 rfl ?_
        refine r_aload rfl dX3_sayAsCut_51 rfl ?_
        obtain ⟨g487, hw488⟩ := hS409.ws (wsAt_ln hi (w := 2) (show 2 < 3 by decide))
        obtain ⟨g490, hw491⟩ := hS409.ws (wsAt_ln hl (w := 2) (show 2 < 3 by decide))
        obtain ⟨g493, hw494⟩ := hS409.ws (wsAt_ln hj (w := 2) (show 2 < 3 by decide))
        refine cl_X3_60 rfl rfl dX3_sayAsCut_53 (show _ ∧ _ from ⟨(wsAt_ln hi (w := 2) (show 2 < 3 by decide)).2.2.1, Nat.lt_of_succ_lt (wsAt_ln hi (w := 2) (show 2 < 3 by decide)).2.2.2⟩).1 (show _ ∧ _ from ⟨(wsAt_ln hi (w := 2) (show 2 < 3 by decide)).2.2.1, Nat.lt_of_succ_lt (wsAt_ln hi (w := 2) (show 2 < 3 by decide)).2.2.2⟩).2 hw488.2.2.1 (Nat.le_of_ble_eq_true rfl) ((s_X10_choose hw488 hw491 hw494 (by omega) (by omega)).sh hS409) ?_
        rintro _ h495 _ ⟨⟨rfl, -, rfl⟩, -, hS496, -⟩
        refine r_goto (pc' := 107) rfl dX3_sayAsCut_56 ?_
        refine r_iinc (y := 3) (ls' := [some (.ref (100 + 8 * i)), some (.ref (100 + 8 * j)), some (.ref (100 + 8 * l)), some (.int o), some (.int 3), some (.ref (102 + 8 * j + 2 * 2)), some (.ref (102 + 8 * l + 2 * 2))]) rfl dX3_sayAsCut_107 rfl (by decide) (Nat.le_of_ble_eq_true rfl) rfl ?_
        refine r_goto (pc' := 3) rfl dX3_sayAsCut_110 ?_
        refine r_iload rfl dX3_sayAsCut_3 rfl ?_
        refine r_iconst (v := 3) rfl dX3_sayAsCut_5 (by decide) ?_
        refine r_icmp_ge (tgt := 113) rfl rfl dX3_sayAsCut_6 (fun _ => ?_) (fun c => absurd c (by decide))
        exact r_ret dX3_sayAsCut_113 (rt_v rfl) rfl
    · refine r_aload_n rfl dX3_sayAsCut_80 rfl ?_
      obtain ⟨y498, y499, y500, y501, y502, y503, f497⟩ := hS390.ln hi
      refine r_getv 0 rfl dX3_sayAsCut_81 (show 2 ≤ 100 + 8 * i ∧ 100 + 8 * i < 434 by omega) f497 fl_X3_11 rfl ?_
      refine r_iload rfl dX3_sayAsCut_84 rfl ?_
      refine r_aald (jn := 1) (v := .ref (102 + 8 * i + 2 * 1)) rfl dX3_sayAsCut_86 (show 2 ≤ 101 + 8 * i ∧ 101 + 8 * i < 434 by omega).1 (show 2 ≤ 101 + 8 * i ∧ 101 + 8 * i < 434 by omega).2 (hS390.say hi) (by decide) (by unfold vp_in; decide) rfl (by show va_rf (if _ < _ then _ else _) = _; rw [if_pos (show 1 < 3 by decide)]; rfl) ?_
      refine r_aload rfl dX3_sayAsCut_87 rfl ?_
      obtain ⟨g506, hw507⟩ := hS390.ws (wsAt_ln hi (w := 1) (show 1 < 3 by decide))
      obtain ⟨g509, hw510⟩ := hS390.ws (wsAt_ln hl (w := 1) (show 1 < 3 by decide))
      refine cl_X3_72 rfl rfl dX3_sayAsCut_89 (show _ ∧ _ from ⟨(wsAt_ln hi (w := 1) (show 1 < 3 by decide)).2.2.1, Nat.lt_of_succ_lt (wsAt_ln hi (w := 1) (show 1 < 3 by decide)).2.2.2⟩).1 (show _ ∧ _ from ⟨(wsAt_ln hi (w := 1) (show 1 < 3 by decide)).2.2.1, Nat.lt_of_succ_lt (wsAt_ln hi (w := 1) (show 1 < 3 by decide)).2.2.2⟩).2 hw507.2.2.1 (Nat.le_of_ble_eq_true rfl) ((s_X10_join hw507 hw510 (by omega)).sh hS390) ?_
      rintro _ h511 _ ⟨⟨rfl, -, rfl⟩, -, hS512, -⟩
      refine r_goto (pc' := 107) rfl dX3_sayAsCut_92 ?_
      refine r_iinc (y := 2) (ls' := [some (.ref (100 + 8 * i)), some (.ref (100 + 8 * j)), some (.ref (100 + 8 * l)), some (.int o), some (.int 2), some (.ref (102 + 8 * j + 2 * 1)), some (.ref (102 + 8 * l + 2 * 1))]) rfl dX3_sayAsCut_107 rfl (by decide) (Nat.le_of_ble_eq_true rfl) rfl ?_
      refine r_goto (pc' := 3) rfl dX3_sayAsCut_110 ?_
      refine r_iload rfl dX3_sayAsCut_3 rfl ?_
      refine r_iconst (v := 3) rfl dX3_sayAsCut_5 (by decide) ?_
      refine r_icmp_ge (tgt := 113) rfl rfl dX3_sayAsCut_6 (fun c => absurd c (by decide)) (fun _ => ?_)
      refine r_aload_n rfl dX3_sayAsCut_9 rfl ?_
      obtain ⟨y514, y515, y516, y517, y518, y519, f513⟩ := hS512.ln hj
      refine r_getv 0 rfl dX3_sayAsCut_10 (show 2 ≤ 100 + 8 * j ∧ 100 + 8 * j < 434 by omega) f513 fl_X3_11 rfl ?_
      refine r_iload rfl dX3_sayAsCut_13 rfl ?_
      refine r_aald (jn := 2) (v := .ref (102 + 8 * j + 2 * 2)) rfl dX3_sayAsCut_15 (show 2 ≤ 101 + 8 * j ∧ 101 + 8 * j < 434 by omega).1 (show 2 ≤ 101 + 8 * j ∧ 101 + 8 * j < 434 by omega).2 (hS512.say hj) (by decide) (by unfold vp_in; decide) rfl (by show va_rf (if _ < _ then _ else _) = _; rw [if_pos (show 2 < 3 by decide)]; rfl) ?_
      refine r_astore (ls' := [some (.ref (100 + 8 * i)), some (.ref (100 + 8 * j)), some (.ref (100 + 8 * l)), some (.int o), some (.int 2), some (.ref (102 + 8 * j + 2 * 2)), some (.ref (102 + 8 * l + 2 * 1))]) rfl dX3_sayAsCut_16 (Nat.le_of_ble_eq_true rfl) rfl ?_
      refine r_aload_n rfl dX3_sayAsCut_18 rfl ?_
      obtain ⟨y522, y523, y524, y525, y526, y527, f521⟩ := hS512.ln hl
      refine r_getv 0 rfl dX3_sayAsCut_19 (show 2 ≤ 100 + 8 * l ∧ 100 + 8 * l < 434 by omega) f521 fl_X3_11 rfl ?_
      refine r_iload rfl dX3_sayAsCut_22 rfl ?_
      refine r_aald (jn := 2) (v := .ref (102 + 8 * l + 2 * 2)) rfl dX3_sayAsCut_24 (show 2 ≤ 101 + 8 * l ∧ 101 + 8 * l < 434 by omega).1 (show 2 ≤ 101 + 8 * l ∧ 101 + 8 * l < 434 by omega).2 (hS512.say hl) (by decide) (by unfold vp_in; decide) rfl (by show va_rf (if _ < _ then _ else _) = _; rw [if_pos (show 2 < 3 by decide)]; rfl) ?_
      refine r_astore (ls' := [some (.ref (100 + 8 * i)), some (.ref (100 + 8 * j)), some (.ref (100 + 8 * l)), some (.int o), some (.int 2), some (.ref (102 + 8 * j + 2 * 2)), some (.ref (102 + 8 * l + 2 * 2))]) rfl dX3_sayAsCut_25 (Nat.le_of_ble_eq_true rfl) rfl ?_
      refine r_iload rfl dX3_sayAsCut_27 rfl ?_
      refine r_iconst (v := 2) rfl dX3_sayAsCut_29 (by decide) ?_
      refine r_icmp_ne (tgt := 59) rfl rfl dX3_sayAsCut_30 (fun c => absurd c (by decide)) (fun _ => ?_)
      refine r_iload_n rfl dX3_sayAsCut_33 rfl ?_
      refine r_iconst (v := 3) rfl dX3_sayAsCut_34 (by decide) ?_
      refine r_icmp_ne (tgt := 59) rfl rfl dX3_sayAsCut_35 (fun c529 => ?_) (fun c529 => ?_)
      · refine r_aload_n rfl dX3_sayAsCut_59 rfl ?_
        obtain ⟨y531, y532, y533, y534, y535, y536, f530⟩ := hS512.ln hi
        refine r_getv 0 rfl dX3_sayAsCut_60 (show 2 ≤ 100 + 8 * i ∧ 100 + 8 * i < 434 by omega) f530 fl_X3_11 rfl ?_
        refine r_iload rfl dX3_sayAsCut_63 rfl ?_
        refine r_aald (jn := 2) (v := .ref (102 + 8 * i + 2 * 2)) rfl dX3_sayAsCut_65 (show 2 ≤ 101 + 8 * i ∧ 101 + 8 * i < 434 by omega).1 (show 2 ≤ 101 + 8 * i ∧ 101 + 8 * i < 434 by omega).2 (hS512.say hi) (by decide) (by unfold vp_in; decide) rfl (by show va_rf (if _ < _ then _ else _) = _; rw [if_pos (show 2 < 3 by decide)]; rfl) ?_
        refine r_aload rfl dX3_sayAsCut_66 rfl ?_
        obtain ⟨g539, hw540⟩ := hS512.ws (wsAt_ln hi (w := 2) (show 2 < 3 by decide))
        obtain ⟨g542, hw543⟩ := hS512.ws (wsAt_ln hj (w := 2) (show 2 < 3 by decide))
        refine cl_X3_64 rfl rfl dX3_sayAsCut_68 (show _ ∧ _ from ⟨(wsAt_ln hi (w := 2) (show 2 < 3 by decide)).2.2.1, Nat.lt_of_succ_lt (wsAt_ln hi (w := 2) (show 2 < 3 by decide)).2.2.2⟩).1 (show _ ∧ _ from ⟨(wsAt_ln hi (w := 2) (show 2 < 3 by decide)).2.2.1, Nat.lt_of_succ_lt (wsAt_ln hi (w := 2) (show 2 < 3 by decide)).2.2.2⟩).2 hw540.2.2.1 (Nat.le_of_ble_eq_true rfl) ((s_X10_become hw540 hw543 (by omega)).sh hS512) ?_
        rintro _ h544 _ ⟨⟨rfl, -, rfl⟩, -, hS545, -⟩
        refine r_iload rfl dX3_sayAsCut_71 rfl ?_
        refine r_iload_n rfl dX3_sayAsCut_73 rfl ?_
        refine cl_X3_68 rfl rfl dX3_sayAsCut_74 (Nat.le_of_ble_eq_true rfl) s_X3_joins ?_
        rintro _ h546 _ ⟨rfl, e547, rfl⟩
        replace e547 := e547.symm
        subst e547
        refine r_if_eq (tgt := 95) rfl rfl dX3_sayAsCut_77 (fun c548 => ?_) (fun c548 => ?_)
        · refine r_aload_n rfl dX3_sayAsCut_95 rfl ?_
          obtain ⟨y550, y551, y552, y553, y554, y555, f549⟩ := hS545.ln hi
          refine r_getv 0 rfl dX3_sayAsCut_96 (show 2 ≤ 100 + 8 * i ∧ 100 + 8 * i < 434 by omega) f549 fl_X3_11 rfl ?_
          refine r_iload rfl dX3_sayAsCut_99 rfl ?_
          refine r_aald (jn := 2) (v := .ref (102 + 8 * i + 2 * 2)) rfl dX3_sayAsCut_101 (show 2 ≤ 101 + 8 * i ∧ 101 + 8 * i < 434 by omega).1 (show 2 ≤ 101 + 8 * i ∧ 101 + 8 * i < 434 by omega).2 (hS545.say hi) (by decide) (by unfold vp_in; decide) rfl (by show va_rf (if _ < _ then _ else _) = _; rw [if_pos (show 2 < 3 by decide)]; rfl) ?_
          refine r_aload rfl dX3_sayAsCut_102 rfl ?_
          obtain ⟨g558, hw559⟩ := hS545.ws (wsAt_ln hi (w := 2) (show 2 < 3 by decide))
          obtain ⟨g561, hw562⟩ := hS545.ws (wsAt_ln hl (w := 2) (show 2 < 3 by decide))
          refine cl_X3_75 rfl rfl dX3_sayAsCut_104 (show _ ∧ _ from ⟨(wsAt_ln hi (w := 2) (show 2 < 3 by decide)).2.2.1, Nat.lt_of_succ_lt (wsAt_ln hi (w := 2) (show 2 < 3 by decide)).2.2.2⟩).1 (show _ ∧ _ from ⟨(wsAt_ln hi (w := 2) (show 2 < 3 by decide)).2.2.1, Nat.lt_of_succ_lt (wsAt_ln hi (w := 2) (show 2 < 3 by decide)).2.2.2⟩).2 hw559.2.2.1 (Nat.le_of_ble_eq_true rfl) ((s_X10_meet hw559 hw562 (by omega)).sh hS545) ?_
          rintro _ h563 _ ⟨⟨rfl, -, rfl⟩, -, hS564, -⟩
          refine r_iinc (y := 3) (ls' := [some (.ref (100 + 8 * i)), some (.ref (100 + 8 * j)), some (.ref (100 + 8 * l)), some (.int o), some (.int 3), some (.ref (102 + 8 * j + 2 * 2)), some (.ref (102 + 8 * l + 2 * 2))]) rfl dX3_sayAsCut_107 rfl (by decide) (Nat.le_of_ble_eq_true rfl) rfl ?_
          refine r_goto (pc' := 3) rfl dX3_sayAsCut_110 ?_
          refine r_iload rfl dX3_sayAsCut_3 rfl ?_
          refine r_iconst (v := 3) rfl dX3_sayAsCut_5 (by decide) ?_
          refine r_icmp_ge (tgt := 113) rfl rfl dX3_sayAsCut_6 (fun _ => ?_) (fun c => absurd c (by decide))
          exact r_ret dX3_sayAsCut_113 (rt_v rfl) rfl
        · refine r_aload_n rfl dX3_sayAsCut_80 rfl ?_
          obtain ⟨y566, y567, y568, y569, y570, y571, f565⟩ := hS545.ln hi
          refine r_getv 0 rfl dX3_sayAsCut_81 (show 2 ≤ 100 + 8 * i ∧ 100 + 8 * i < 434 by omega) f565 fl_X3_11 rfl ?_
          refine r_iload rfl dX3_sayAsCut_84 rfl ?_
          refine r_aald (jn := 2) (v := .ref (102 + 8 * i + 2 * 2)) rfl dX3_sayAsCut_86 (show 2 ≤ 101 + 8 * i ∧ 101 + 8 * i < 434 by omega).1 (show 2 ≤ 101 + 8 * i ∧ 101 + 8 * i < 434 by omega).2 (hS545.say hi) (by decide) (by unfold vp_in; decide) rfl (by show va_rf (if _ < _ then _ else _) = _; rw [if_pos (show 2 < 3 by decide)]; rfl) ?_
          refine r_aload rfl dX3_sayAsCut_87 rfl ?_
          obtain ⟨g574, hw575⟩ := hS545.ws (wsAt_ln hi (w := 2) (show 2 < 3 by decide))
          obtain ⟨g577, hw578⟩ := hS545.ws (wsAt_ln hl (w := 2) (show 2 < 3 by decide))
          refine cl_X3_72 rfl rfl dX3_sayAsCut_89 (show _ ∧ _ from ⟨(wsAt_ln hi (w := 2) (show 2 < 3 by decide)).2.2.1, Nat.lt_of_succ_lt (wsAt_ln hi (w := 2) (show 2 < 3 by decide)).2.2.2⟩).1 (show _ ∧ _ from ⟨(wsAt_ln hi (w := 2) (show 2 < 3 by decide)).2.2.1, Nat.lt_of_succ_lt (wsAt_ln hi (w := 2) (show 2 < 3 by decide)).2.2.2⟩).2 hw575.2.2.1 (Nat.le_of_ble_eq_true rfl) ((s_X10_join hw575 hw578 (by omega)).sh hS545) ?_
          rintro _ h579 _ ⟨⟨rfl, -, rfl⟩, -, hS580, -⟩
          refine r_goto (pc' := 107) rfl dX3_sayAsCut_92 ?_
          refine r_iinc (y := 3) (ls' := [some (.ref (100 + 8 * i)), some (.ref (100 + 8 * j)), some (.ref (100 + 8 * l)), some (.int o), some (.int 3), some (.ref (102 + 8 * j + 2 * 2)), some (.ref (102 + 8 * l + 2 * 2))]) rfl dX3_sayAsCut_107 rfl (by decide) (Nat.le_of_ble_eq_true rfl) rfl ?_
          refine r_goto (pc' := 3) rfl dX3_sayAsCut_110 ?_
          refine r_iload rfl dX3_sayAsCut_3 rfl ?_
          refine r_iconst (v := 3) rfl dX3_sayAsCut_5 (by decide) ?_
          refine r_icmp_ge (tgt := 113) rfl rfl dX3_sayAsCut_6 (fun _ => ?_) (fun c => absurd c (by decide))
          exact r_ret dX3_sayAsCut_113 (rt_v rfl) rfl
      · refine r_aload_n rfl dX3_sayAsCut_38 rfl ?_
        obtain ⟨y582, y583, y584, y585, y586, y587, f581⟩ := hS512.ln hi
        refine r_getv 0 rfl dX3_sayAsCut_39 (show 2 ≤ 100 + 8 * i ∧ 100 + 8 * i < 434 by omega) f581 fl_X3_11 rfl ?_
        refine r_iload rfl dX3_sayAsCut_42 rfl ?_
        refine r_aald (jn := 2) (v := .ref (102 + 8 * i + 2 * 2)) rfl dX3_sayAsCut_44 (show 2 ≤ 101 + 8 * i ∧ 101 + 8 * i < 434 by omega).1 (show 2 ≤ 101 + 8 * i ∧ 101 + 8 * i < 434 by omega).2 (hS512.say hi) (by decide) (by unfold vp_in; decide) rfl (by show va_rf (if _ < _ then _ else _) = _; rw [if_pos (show 2 < 3 by decide)]; rfl) ?_
        refine r_aload_n rfl dX3_sayAsCut_45 rfl ?_
        refine r_getv 6 rfl dX3_sayAsCut_46 (show 2 ≤ 100 + 8 * i ∧ 100 + 8 * i < 434 by omega) f581 fl_X3_24 rfl ?_
        refine r_aload rfl dX3_sayAsCut_49 rfl ?_
        refine r_aload rfl dX3_sayAsCut_51 rfl ?_
        obtain ⟨g590, hw591⟩ := hS512.ws (wsAt_ln hi (w := 2) (show 2 < 3 by decide))
        obtain ⟨g593, hw594⟩ := hS512.ws (wsAt_ln hl (w := 2) (show 2 < 3 by decide))
        obtain ⟨g596, hw597⟩ := hS512.ws (wsAt_ln hj (w := 2) (show 2 < 3 by decide))
        refine cl_X3_60 rfl rfl dX3_sayAsCut_53 (show _ ∧ _ from ⟨(wsAt_ln hi (w := 2) (show 2 < 3 by decide)).2.2.1, Nat.lt_of_succ_lt (wsAt_ln hi (w := 2) (show 2 < 3 by decide)).2.2.2⟩).1 (show _ ∧ _ from ⟨(wsAt_ln hi (w := 2) (show 2 < 3 by decide)).2.2.1, Nat.lt_of_succ_lt (wsAt_ln hi (w := 2) (show 2 < 3 by decide)).2.2.2⟩).2 hw591.2.2.1 (Nat.le_of_ble_eq_true rfl) ((s_X10_choose hw591 hw594 hw597 (by omega) (by omega)).sh hS512) ?_
        rintro _ h598 _ ⟨⟨rfl, -, rfl⟩, -, hS599, -⟩
        refine r_goto (pc' := 107) rfl dX3_sayAsCut_56 ?_
        refine r_iinc (y := 3) (ls' := [some (.ref (100 + 8 * i)), some (.ref (100 + 8 * j)), some (.ref (100 + 8 * l)), some (.int o), some (.int 3), some (.ref (102 + 8 * j + 2 * 2)), some (.ref (102 + 8 * l + 2 * 2))]) rfl dX3_sayAsCut_107 rfl (by decide) (Nat.le_of_ble_eq_true rfl) rfl ?_
        refine r_goto (pc' := 3) rfl dX3_sayAsCut_110 ?_
        refine r_iload rfl dX3_sayAsCut_3 rfl ?_
        refine r_iconst (v := 3) rfl dX3_sayAsCut_5 (by decide) ?_
        refine r_icmp_ge (tgt := 113) rfl rfl dX3_sayAsCut_6 (fun _ => ?_) (fun c => absurd c (by decide))
        exact r_ret dX3_sayAsCut_113 (rt_v rfl) rfl
