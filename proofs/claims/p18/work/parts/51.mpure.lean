theorem dX12_ones_0 : decode cX12_ones 0 = .ok (.iconst 0, 1) := by decide +kernel
theorem dX12_ones_1 : decode cX12_ones 1 = .ok (.istore_n 1, 1) := by decide +kernel
theorem dX12_ones_2 : decode cX12_ones 2 = .ok (.iconst 0, 1) := by decide +kernel
theorem dX12_ones_3 : decode cX12_ones 3 = .ok (.istore_n 2, 1) := by decide +kernel
theorem dX12_ones_4 : decode cX12_ones 4 = .ok (.iload_n 2, 1) := by decide +kernel
theorem dX12_ones_5 : decode cX12_ones 5 = .ok (.bipush 16, 2) := by decide +kernel
theorem dX12_ones_7 : decode cX12_ones 7 = .ok (.if_icmp .ge 17, 3) := by decide +kernel
theorem dX12_ones_10 : decode cX12_ones 10 = .ok (.iload_n 1, 1) := by decide +kernel
theorem dX12_ones_11 : decode cX12_ones 11 = .ok (.iload_n 0, 1) := by decide +kernel
theorem dX12_ones_12 : decode cX12_ones 12 = .ok (.iload_n 2, 1) := by decide +kernel
theorem dX12_ones_13 : decode cX12_ones 13 = .ok (.ishr, 1) := by decide +kernel
theorem dX12_ones_14 : decode cX12_ones 14 = .ok (.iconst 1, 1) := by decide +kernel
theorem dX12_ones_15 : decode cX12_ones 15 = .ok (.iand, 1) := by decide +kernel
theorem dX12_ones_16 : decode cX12_ones 16 = .ok (.iadd, 1) := by decide +kernel
theorem dX12_ones_17 : decode cX12_ones 17 = .ok (.istore_n 1, 1) := by decide +kernel
theorem dX12_ones_18 : decode cX12_ones 18 = .ok (.iinc 2 1, 3) := by decide +kernel
theorem dX12_ones_21 : decode cX12_ones 21 = .ok (.goto (-17), 3) := by decide +kernel
theorem dX12_ones_24 : decode cX12_ones 24 = .ok (.iload_n 1, 1) := by decide +kernel
theorem dX12_ones_25 : decode cX12_ones 25 = .ok (.ireturn, 1) := by decide +kernel
theorem dX12_has_0 : decode cX12_has 0 = .ok (.aload_n 0, 1) := by decide +kernel
theorem dX12_has_1 : decode cX12_has 1 = .ok (.iload_n 1, 1) := by decide +kernel
theorem dX12_has_2 : decode cX12_has 2 = .ok (.iload_n 2, 1) := by decide +kernel
theorem dX12_has_3 : decode cX12_has 3 = .ok (.bipush 6, 2) := by decide +kernel
theorem dX12_has_5 : decode cX12_has 5 = .ok (.ishr, 1) := by decide +kernel
theorem dX12_has_6 : decode cX12_has 6 = .ok (.iadd, 1) := by decide +kernel
theorem dX12_has_7 : decode cX12_has 7 = .ok (.laload, 1) := by decide +kernel
theorem dX12_has_8 : decode cX12_has 8 = .ok (.iload_n 2, 1) := by decide +kernel
theorem dX12_has_9 : decode cX12_has 9 = .ok (.bipush 63, 2) := by decide +kernel
theorem dX12_has_11 : decode cX12_has 11 = .ok (.iand, 1) := by decide +kernel
theorem dX12_has_12 : decode cX12_has 12 = .ok (.lshr, 1) := by decide +kernel
theorem dX12_has_13 : decode cX12_has 13 = .ok (.lconst 1, 1) := by decide +kernel
theorem dX12_has_14 : decode cX12_has 14 = .ok (.land, 1) := by decide +kernel
theorem dX12_has_15 : decode cX12_has 15 = .ok (.lconst 1, 1) := by decide +kernel
theorem dX12_has_16 : decode cX12_has 16 = .ok (.lcmp, 1) := by decide +kernel
theorem dX12_has_17 : decode cX12_has 17 = .ok (.ifCond .ne 7, 3) := by decide +kernel
theorem dX12_has_20 : decode cX12_has 20 = .ok (.iconst 1, 1) := by decide +kernel
theorem dX12_has_21 : decode cX12_has 21 = .ok (.goto 4, 3) := by decide +kernel
theorem dX12_has_24 : decode cX12_has 24 = .ok (.iconst 0, 1) := by decide +kernel
theorem dX12_has_25 : decode cX12_has 25 = .ok (.ireturn, 1) := by decide +kernel
theorem dX12_isSo_0 : decode cX12_isSo 0 = .ok (.iload_n 0, 1) := by decide +kernel
theorem dX12_isSo_1 : decode cX12_isSo 1 = .ok (.iload_n 2, 1) := by decide +kernel
theorem dX12_isSo_2 : decode cX12_isSo 2 = .ok (.iand, 1) := by decide +kernel
theorem dX12_isSo_3 : decode cX12_isSo 3 = .ok (.ifCond .ne 11, 3) := by decide +kernel
theorem dX12_isSo_6 : decode cX12_isSo 6 = .ok (.iload_n 1, 1) := by decide +kernel
theorem dX12_isSo_7 : decode cX12_isSo 7 = .ok (.iload_n 2, 1) := by decide +kernel
theorem dX12_isSo_8 : decode cX12_isSo 8 = .ok (.iconst (-1), 1) := by decide +kernel
theorem dX12_isSo_9 : decode cX12_isSo 9 = .ok (.ixor, 1) := by decide +kernel
theorem dX12_isSo_10 : decode cX12_isSo 10 = .ok (.iand, 1) := by decide +kernel
theorem dX12_isSo_11 : decode cX12_isSo 11 = .ok (.ifCond .eq 7, 3) := by decide +kernel
theorem dX12_isSo_14 : decode cX12_isSo 14 = .ok (.iconst 1, 1) := by decide +kernel
theorem dX12_isSo_15 : decode cX12_isSo 15 = .ok (.goto 4, 3) := by decide +kernel
theorem dX12_isSo_18 : decode cX12_isSo 18 = .ok (.iconst 0, 1) := by decide +kernel
theorem dX12_isSo_19 : decode cX12_isSo 19 = .ok (.ireturn, 1) := by decide +kernel
theorem dX12_lettersOf_0 : decode cX12_lettersOf 0 = .ok (.iconst 0, 1) := by decide +kernel
theorem dX12_lettersOf_1 : decode cX12_lettersOf 1 = .ok (.istore_n 2, 1) := by decide +kernel
theorem dX12_lettersOf_2 : decode cX12_lettersOf 2 = .ok (.iconst 0, 1) := by decide +kernel
theorem dX12_lettersOf_3 : decode cX12_lettersOf 3 = .ok (.istore_n 3, 1) := by decide +kernel
theorem dX12_lettersOf_4 : decode cX12_lettersOf 4 = .ok (.iload_n 3, 1) := by decide +kernel
theorem dX12_lettersOf_5 : decode cX12_lettersOf 5 = .ok (.aload_n 0, 1) := by decide +kernel
theorem dX12_lettersOf_6 : decode cX12_lettersOf 6 = .ok (.getfield 112, 3) := by decide +kernel
theorem dX12_lettersOf_9 : decode cX12_lettersOf 9 = .ok (.if_icmp .ge 52, 3) := by decide +kernel
theorem dX12_lettersOf_12 : decode cX12_lettersOf 12 = .ok (.iload_n 2, 1) := by decide +kernel
theorem dX12_lettersOf_13 : decode cX12_lettersOf 13 = .ok (.aload_n 0, 1) := by decide +kernel
theorem dX12_lettersOf_14 : decode cX12_lettersOf 14 = .ok (.getfield 17, 3) := by decide +kernel
theorem dX12_lettersOf_17 : decode cX12_lettersOf 17 = .ok (.bipush 6, 2) := by decide +kernel
theorem dX12_lettersOf_19 : decode cX12_lettersOf 19 = .ok (.iload_n 3, 1) := by decide +kernel
theorem dX12_lettersOf_20 : decode cX12_lettersOf 20 = .ok (.imul, 1) := by decide +kernel
theorem dX12_lettersOf_21 : decode cX12_lettersOf 21 = .ok (.iconst 2, 1) := by decide +kernel
theorem dX12_lettersOf_22 : decode cX12_lettersOf 22 = .ok (.iadd, 1) := by decide +kernel
theorem dX12_lettersOf_23 : decode cX12_lettersOf 23 = .ok (.iaload, 1) := by decide +kernel
theorem dX12_lettersOf_24 : decode cX12_lettersOf 24 = .ok (.iload_n 1, 1) := by decide +kernel
theorem dX12_lettersOf_25 : decode cX12_lettersOf 25 = .ok (.if_icmp .ne 27, 3) := by decide +kernel
theorem dX12_lettersOf_28 : decode cX12_lettersOf 28 = .ok (.aload_n 0, 1) := by decide +kernel
theorem dX12_lettersOf_29 : decode cX12_lettersOf 29 = .ok (.getfield 17, 3) := by decide +kernel
theorem dX12_lettersOf_32 : decode cX12_lettersOf 32 = .ok (.bipush 6, 2) := by decide +kernel
theorem dX12_lettersOf_34 : decode cX12_lettersOf 34 = .ok (.iload_n 3, 1) := by decide +kernel
theorem dX12_lettersOf_35 : decode cX12_lettersOf 35 = .ok (.imul, 1) := by decide +kernel
theorem dX12_lettersOf_36 : decode cX12_lettersOf 36 = .ok (.iaload, 1) := by decide +kernel
theorem dX12_lettersOf_37 : decode cX12_lettersOf 37 = .ok (.aload_n 0, 1) := by decide +kernel
theorem dX12_lettersOf_38 : decode cX12_lettersOf 38 = .ok (.getfield 17, 3) := by decide +kernel
theorem dX12_lettersOf_41 : decode cX12_lettersOf 41 = .ok (.bipush 6, 2) := by decide +kernel
theorem dX12_lettersOf_43 : decode cX12_lettersOf 43 = .ok (.iload_n 3, 1) := by decide +kernel
theorem dX12_lettersOf_44 : decode cX12_lettersOf 44 = .ok (.imul, 1) := by decide +kernel
theorem dX12_lettersOf_45 : decode cX12_lettersOf 45 = .ok (.iconst 1, 1) := by decide +kernel
theorem dX12_lettersOf_46 : decode cX12_lettersOf 46 = .ok (.iadd, 1) := by decide +kernel
theorem dX12_lettersOf_47 : decode cX12_lettersOf 47 = .ok (.iaload, 1) := by decide +kernel
theorem dX12_lettersOf_48 : decode cX12_lettersOf 48 = .ok (.ior, 1) := by decide +kernel
theorem dX12_lettersOf_49 : decode cX12_lettersOf 49 = .ok (.goto 4, 3) := by decide +kernel
theorem dX12_lettersOf_52 : decode cX12_lettersOf 52 = .ok (.iconst 0, 1) := by decide +kernel
theorem dX12_lettersOf_53 : decode cX12_lettersOf 53 = .ok (.ior, 1) := by decide +kernel
theorem dX12_lettersOf_54 : decode cX12_lettersOf 54 = .ok (.istore_n 2, 1) := by decide +kernel
theorem dX12_lettersOf_55 : decode cX12_lettersOf 55 = .ok (.iinc 3 1, 3) := by decide +kernel
theorem dX12_lettersOf_58 : decode cX12_lettersOf 58 = .ok (.goto (-54), 3) := by decide +kernel
theorem dX12_lettersOf_61 : decode cX12_lettersOf 61 = .ok (.iload_n 2, 1) := by decide +kernel
theorem dX12_lettersOf_62 : decode cX12_lettersOf 62 = .ok (.ireturn, 1) := by decide +kernel
theorem dX12_shared_0 : decode cX12_shared 0 = .ok (.aload_n 0, 1) := by decide +kernel
theorem dX12_shared_1 : decode cX12_shared 1 = .ok (.iconst 1, 1) := by decide +kernel
theorem dX12_shared_2 : decode cX12_shared 2 = .ok (.invokevirtual 130, 3) := by decide +kernel
theorem dX12_shared_5 : decode cX12_shared 5 = .ok (.aload_n 0, 1) := by decide +kernel
theorem dX12_shared_6 : decode cX12_shared 6 = .ok (.iconst 2, 1) := by decide +kernel
theorem dX12_shared_7 : decode cX12_shared 7 = .ok (.invokevirtual 130, 3) := by decide +kernel
theorem dX12_shared_10 : decode cX12_shared 10 = .ok (.iand, 1) := by decide +kernel
theorem dX12_shared_11 : decode cX12_shared 11 = .ok (.ireturn, 1) := by decide +kernel
theorem dX12_many_0 : decode cX12_many 0 = .ok (.iconst 0, 1) := by decide +kernel
theorem dX12_many_1 : decode cX12_many 1 = .ok (.istore_n 1, 1) := by decide +kernel
theorem dX12_many_2 : decode cX12_many 2 = .ok (.iconst 0, 1) := by decide +kernel
theorem dX12_many_3 : decode cX12_many 3 = .ok (.istore_n 2, 1) := by decide +kernel
theorem dX12_many_4 : decode cX12_many 4 = .ok (.iload_n 2, 1) := by decide +kernel
theorem dX12_many_5 : decode cX12_many 5 = .ok (.sipush 256, 3) := by decide +kernel
theorem dX12_many_8 : decode cX12_many 8 = .ok (.if_icmp .ge 26, 3) := by decide +kernel
theorem dX12_many_11 : decode cX12_many 11 = .ok (.iload_n 1, 1) := by decide +kernel
theorem dX12_many_12 : decode cX12_many 12 = .ok (.aload_n 0, 1) := by decide +kernel
theorem dX12_many_13 : decode cX12_many 13 = .ok (.iconst 0, 1) := by decide +kernel
theorem dX12_many_14 : decode cX12_many 14 = .ok (.iload_n 2, 1) := by decide +kernel
theorem dX12_many_15 : decode cX12_many 15 = .ok (.invokestatic 143, 3) := by decide +kernel
theorem dX12_many_18 : decode cX12_many 18 = .ok (.ifCond .eq 7, 3) := by decide +kernel
theorem dX12_many_21 : decode cX12_many 21 = .ok (.iconst 1, 1) := by decide +kernel
theorem dX12_many_22 : decode cX12_many 22 = .ok (.goto 4, 3) := by decide +kernel
theorem dX12_many_25 : decode cX12_many 25 = .ok (.iconst 0, 1) := by decide +kernel
theorem dX12_many_26 : decode cX12_many 26 = .ok (.iadd, 1) := by decide +kernel
theorem dX12_many_27 : decode cX12_many 27 = .ok (.istore_n 1, 1) := by decide +kernel
theorem dX12_many_28 : decode cX12_many 28 = .ok (.iinc 2 1, 3) := by decide +kernel
theorem dX12_many_31 : decode cX12_many 31 = .ok (.goto (-27), 3) := by decide +kernel
theorem dX12_many_34 : decode cX12_many 34 = .ok (.iload_n 1, 1) := by decide +kernel
theorem dX12_many_35 : decode cX12_many 35 = .ok (.ireturn, 1) := by decide +kernel
theorem dX12_looksOf_0 : decode cX12_looksOf 0 = .ok (.iconst 0, 1) := by decide +kernel
theorem dX12_looksOf_1 : decode cX12_looksOf 1 = .ok (.istore_n 1, 1) := by decide +kernel
theorem dX12_looksOf_2 : decode cX12_looksOf 2 = .ok (.iconst 0, 1) := by decide +kernel
theorem dX12_looksOf_3 : decode cX12_looksOf 3 = .ok (.istore_n 2, 1) := by decide +kernel
theorem dX12_looksOf_4 : decode cX12_looksOf 4 = .ok (.iload_n 2, 1) := by decide +kernel
theorem dX12_looksOf_5 : decode cX12_looksOf 5 = .ok (.sipush 256, 3) := by decide +kernel
theorem dX12_looksOf_8 : decode cX12_looksOf 8 = .ok (.if_icmp .ge 55, 3) := by decide +kernel
theorem dX12_looksOf_11 : decode cX12_looksOf 11 = .ok (.iconst 0, 1) := by decide +kernel
theorem dX12_looksOf_12 : decode cX12_looksOf 12 = .ok (.istore_n 3, 1) := by decide +kernel
theorem dX12_looksOf_13 : decode cX12_looksOf 13 = .ok (.iload_n 3, 1) := by decide +kernel
theorem dX12_looksOf_14 : decode cX12_looksOf 14 = .ok (.bipush 8, 2) := by decide +kernel
theorem dX12_looksOf_16 : decode cX12_looksOf 16 = .ok (.if_icmp .ge 41, 3) := by decide +kernel
theorem dX12_looksOf_19 : decode cX12_looksOf 19 = .ok (.iload_n 1, 1) := by decide +kernel
theorem dX12_looksOf_20 : decode cX12_looksOf 20 = .ok (.aload_n 0, 1) := by decide +kernel
theorem dX12_looksOf_21 : decode cX12_looksOf 21 = .ok (.iconst 0, 1) := by decide +kernel
theorem dX12_looksOf_22 : decode cX12_looksOf 22 = .ok (.iload_n 2, 1) := by decide +kernel
theorem dX12_looksOf_23 : decode cX12_looksOf 23 = .ok (.invokestatic 143, 3) := by decide +kernel
theorem dX12_looksOf_26 : decode cX12_looksOf 26 = .ok (.ifCond .eq 22, 3) := by decide +kernel
theorem dX12_looksOf_29 : decode cX12_looksOf 29 = .ok (.aload_n 0, 1) := by decide +kernel
theorem dX12_looksOf_30 : decode cX12_looksOf 30 = .ok (.iconst 0, 1) := by decide +kernel
theorem dX12_looksOf_31 : decode cX12_looksOf 31 = .ok (.iload_n 2, 1) := by decide +kernel
theorem dX12_looksOf_32 : decode cX12_looksOf 32 = .ok (.iconst 1, 1) := by decide +kernel
theorem dX12_looksOf_33 : decode cX12_looksOf 33 = .ok (.iload_n 3, 1) := by decide +kernel
theorem dX12_looksOf_34 : decode cX12_looksOf 34 = .ok (.ishl, 1) := by decide +kernel
theorem dX12_looksOf_35 : decode cX12_looksOf 35 = .ok (.ixor, 1) := by decide +kernel
theorem dX12_looksOf_36 : decode cX12_looksOf 36 = .ok (.invokestatic 143, 3) := by decide +kernel
theorem dX12_looksOf_39 : decode cX12_looksOf 39 = .ok (.ifCond .ne 9, 3) := by decide +kernel
theorem dX12_looksOf_42 : decode cX12_looksOf 42 = .ok (.iconst 1, 1) := by decide +kernel
theorem dX12_looksOf_43 : decode cX12_looksOf 43 = .ok (.iload_n 3, 1) := by decide +kernel
theorem dX12_looksOf_44 : decode cX12_looksOf 44 = .ok (.ishl, 1) := by decide +kernel
theorem dX12_looksOf_45 : decode cX12_looksOf 45 = .ok (.goto 4, 3) := by decide +kernel
theorem dX12_looksOf_48 : decode cX12_looksOf 48 = .ok (.iconst 0, 1) := by decide +kernel
theorem dX12_looksOf_49 : decode cX12_looksOf 49 = .ok (.ior, 1) := by decide +kernel
theorem dX12_looksOf_50 : decode cX12_looksOf 50 = .ok (.istore_n 1, 1) := by decide +kernel
theorem dX12_looksOf_51 : decode cX12_looksOf 51 = .ok (.iinc 3 1, 3) := by decide +kernel
theorem dX12_looksOf_54 : decode cX12_looksOf 54 = .ok (.goto (-41), 3) := by decide +kernel
theorem dX12_looksOf_57 : decode cX12_looksOf 57 = .ok (.iinc 2 1, 3) := by decide +kernel
theorem dX12_looksOf_60 : decode cX12_looksOf 60 = .ok (.goto (-56), 3) := by decide +kernel
theorem dX12_looksOf_63 : decode cX12_looksOf 63 = .ok (.iload_n 1, 1) := by decide +kernel
theorem dX12_looksOf_64 : decode cX12_looksOf 64 = .ok (.ireturn, 1) := by decide +kernel
theorem dX12_isWay_0 : decode cX12_isWay 0 = .ok (.iload_n 0, 1) := by decide +kernel
theorem dX12_isWay_1 : decode cX12_isWay 1 = .ok (.iconst 0, 1) := by decide +kernel
theorem dX12_isWay_2 : decode cX12_isWay 2 = .ok (.iconst 2, 1) := by decide +kernel
theorem dX12_isWay_3 : decode cX12_isWay 3 = .ok (.invokestatic 60, 3) := by decide +kernel
theorem dX12_isWay_6 : decode cX12_isWay 6 = .ok (.ireturn, 1) := by decide +kernel
theorem dX12_isLine_0 : decode cX12_isLine 0 = .ok (.iload_n 1, 1) := by decide +kernel
theorem dX12_isLine_1 : decode cX12_isLine 1 = .ok (.iconst 0, 1) := by decide +kernel
theorem dX12_isLine_2 : decode cX12_isLine 2 = .ok (.aload_n 0, 1) := by decide +kernel
theorem dX12_isLine_3 : decode cX12_isLine 3 = .ok (.getfield 112, 3) := by decide +kernel
theorem dX12_isLine_6 : decode cX12_isLine 6 = .ok (.aload_n 0, 1) := by decide +kernel
theorem dX12_isLine_7 : decode cX12_isLine 7 = .ok (.getfield 115, 3) := by decide +kernel
theorem dX12_isLine_10 : decode cX12_isLine 10 = .ok (.iadd, 1) := by decide +kernel
theorem dX12_isLine_11 : decode cX12_isLine 11 = .ok (.iconst 1, 1) := by decide +kernel
theorem dX12_isLine_12 : decode cX12_isLine 12 = .ok (.isub, 1) := by decide +kernel
theorem dX12_isLine_13 : decode cX12_isLine 13 = .ok (.invokestatic 60, 3) := by decide +kernel
theorem dX12_isLine_16 : decode cX12_isLine 16 = .ok (.ireturn, 1) := by decide +kernel
theorem dX12_ending_0 : decode cX12_ending 0 = .ok (.iconst 0, 1) := by decide +kernel
theorem dX12_ending_1 : decode cX12_ending 1 = .ok (.istore_n 1, 1) := by decide +kernel
theorem dX12_ending_2 : decode cX12_ending 2 = .ok (.iload_n 1, 1) := by decide +kernel
theorem dX12_ending_3 : decode cX12_ending 3 = .ok (.aload_n 0, 1) := by decide +kernel
theorem dX12_ending_4 : decode cX12_ending 4 = .ok (.getfield 112, 3) := by decide +kernel
theorem dX12_ending_7 : decode cX12_ending 7 = .ok (.aload_n 0, 1) := by decide +kernel
theorem dX12_ending_8 : decode cX12_ending 8 = .ok (.getfield 115, 3) := by decide +kernel
theorem dX12_ending_11 : decode cX12_ending 11 = .ok (.iadd, 1) := by decide +kernel
theorem dX12_ending_12 : decode cX12_ending 12 = .ok (.if_icmp .ge 37, 3) := by decide +kernel
theorem dX12_ending_15 : decode cX12_ending 15 = .ok (.aload_n 0, 1) := by decide +kernel
theorem dX12_ending_16 : decode cX12_ending 16 = .ok (.getfield 17, 3) := by decide +kernel
theorem dX12_ending_19 : decode cX12_ending 19 = .ok (.bipush 6, 2) := by decide +kernel
theorem dX12_ending_21 : decode cX12_ending 21 = .ok (.iload_n 1, 1) := by decide +kernel
theorem dX12_ending_22 : decode cX12_ending 22 = .ok (.imul, 1) := by decide +kernel
theorem dX12_ending_23 : decode cX12_ending 23 = .ok (.iaload, 1) := by decide +kernel
theorem dX12_ending_24 : decode cX12_ending 24 = .ok (.ifCond .ne 19, 3) := by decide +kernel
theorem dX12_ending_27 : decode cX12_ending 27 = .ok (.aload_n 0, 1) := by decide +kernel
theorem dX12_ending_28 : decode cX12_ending 28 = .ok (.getfield 17, 3) := by decide +kernel
theorem dX12_ending_31 : decode cX12_ending 31 = .ok (.bipush 6, 2) := by decide +kernel
theorem dX12_ending_33 : decode cX12_ending 33 = .ok (.iload_n 1, 1) := by decide +kernel
theorem dX12_ending_34 : decode cX12_ending 34 = .ok (.imul, 1) := by decide +kernel
theorem dX12_ending_35 : decode cX12_ending 35 = .ok (.iconst 1, 1) := by decide +kernel
theorem dX12_ending_36 : decode cX12_ending 36 = .ok (.iadd, 1) := by decide +kernel
theorem dX12_ending_37 : decode cX12_ending 37 = .ok (.iaload, 1) := by decide +kernel
theorem dX12_ending_38 : decode cX12_ending 38 = .ok (.ifCond .ne 5, 3) := by decide +kernel
theorem dX12_ending_41 : decode cX12_ending 41 = .ok (.iload_n 1, 1) := by decide +kernel
theorem dX12_ending_42 : decode cX12_ending 42 = .ok (.ireturn, 1) := by decide +kernel
theorem dX12_ending_43 : decode cX12_ending 43 = .ok (.iinc 1 1, 3) := by decide +kernel
theorem dX12_ending_46 : decode cX12_ending 46 = .ok (.goto (-44), 3) := by decide +kernel
theorem dX12_ending_49 : decode cX12_ending 49 = .ok (.bipush (-9), 2) := by decide +kernel
theorem dX12_ending_51 : decode cX12_ending 51 = .ok (.ireturn, 1) := by decide +kernel
theorem dX12_clash_0 : decode cX12_clash 0 = .ok (.iconst 1, 1) := by decide +kernel
theorem dX12_clash_1 : decode cX12_clash 1 = .ok (.istore_n 2, 1) := by decide +kernel
theorem dX12_clash_2 : decode cX12_clash 2 = .ok (.iconst 0, 1) := by decide +kernel
theorem dX12_clash_3 : decode cX12_clash 3 = .ok (.istore_n 3, 1) := by decide +kernel
theorem dX12_clash_4 : decode cX12_clash 4 = .ok (.iload_n 3, 1) := by decide +kernel
theorem dX12_clash_5 : decode cX12_clash 5 = .ok (.iconst 4, 1) := by decide +kernel
theorem dX12_clash_6 : decode cX12_clash 6 = .ok (.if_icmp .ge 81, 3) := by decide +kernel
theorem dX12_clash_9 : decode cX12_clash 9 = .ok (.iload_n 2, 1) := by decide +kernel
theorem dX12_clash_10 : decode cX12_clash 10 = .ok (.ifCond .eq 77, 3) := by decide +kernel
theorem dX12_clash_13 : decode cX12_clash 13 = .ok (.ldc2_w 137, 3) := by decide +kernel
theorem dX12_clash_16 : decode cX12_clash 16 = .ok (.lstore 4, 2) := by decide +kernel
theorem dX12_clash_18 : decode cX12_clash 18 = .ok (.iconst 0, 1) := by decide +kernel
theorem dX12_clash_19 : decode cX12_clash 19 = .ok (.istore 6, 2) := by decide +kernel
theorem dX12_clash_21 : decode cX12_clash 21 = .ok (.iload 6, 2) := by decide +kernel
theorem dX12_clash_23 : decode cX12_clash 23 = .ok (.aload_n 0, 1) := by decide +kernel
theorem dX12_clash_24 : decode cX12_clash 24 = .ok (.getfield 112, 3) := by decide +kernel
theorem dX12_clash_27 : decode cX12_clash 27 = .ok (.if_icmp .ge 41, 3) := by decide +kernel
theorem dX12_clash_30 : decode cX12_clash 30 = .ok (.lload 4, 2) := by decide +kernel
theorem dX12_clash_32 : decode cX12_clash 32 = .ok (.iload_n 1, 1) := by decide +kernel
theorem dX12_clash_33 : decode cX12_clash 33 = .ok (.iload 6, 2) := by decide +kernel
theorem dX12_clash_35 : decode cX12_clash 35 = .ok (.ishr, 1) := by decide +kernel
theorem dX12_clash_36 : decode cX12_clash 36 = .ok (.iconst 1, 1) := by decide +kernel
theorem dX12_clash_37 : decode cX12_clash 37 = .ok (.iand, 1) := by decide +kernel
theorem dX12_clash_38 : decode cX12_clash 38 = .ok (.iconst 1, 1) := by decide +kernel
theorem dX12_clash_39 : decode cX12_clash 39 = .ok (.if_icmp .ne 17, 3) := by decide +kernel
theorem dX12_clash_42 : decode cX12_clash 42 = .ok (.aload_n 0, 1) := by decide +kernel
theorem dX12_clash_43 : decode cX12_clash 43 = .ok (.getfield 26, 3) := by decide +kernel
theorem dX12_clash_46 : decode cX12_clash 46 = .ok (.iconst 4, 1) := by decide +kernel
theorem dX12_clash_47 : decode cX12_clash 47 = .ok (.iload 6, 2) := by decide +kernel
theorem dX12_clash_49 : decode cX12_clash 49 = .ok (.imul, 1) := by decide +kernel
theorem dX12_clash_50 : decode cX12_clash 50 = .ok (.iload_n 3, 1) := by decide +kernel
theorem dX12_clash_51 : decode cX12_clash 51 = .ok (.iadd, 1) := by decide +kernel
theorem dX12_clash_52 : decode cX12_clash 52 = .ok (.laload, 1) := by decide +kernel
theorem dX12_clash_53 : decode cX12_clash 53 = .ok (.goto 6, 3) := by decide +kernel
theorem dX12_clash_56 : decode cX12_clash 56 = .ok (.ldc2_w 137, 3) := by decide +kernel
theorem dX12_clash_59 : decode cX12_clash 59 = .ok (.land, 1) := by decide +kernel
theorem dX12_clash_60 : decode cX12_clash 60 = .ok (.lstore 4, 2) := by decide +kernel
theorem dX12_clash_62 : decode cX12_clash 62 = .ok (.iinc 6 1, 3) := by decide +kernel
theorem dX12_clash_65 : decode cX12_clash 65 = .ok (.goto (-44), 3) := by decide +kernel
theorem dX12_clash_68 : decode cX12_clash 68 = .ok (.lload 4, 2) := by decide +kernel
theorem dX12_clash_70 : decode cX12_clash 70 = .ok (.lconst 0, 1) := by decide +kernel
theorem dX12_clash_71 : decode cX12_clash 71 = .ok (.lcmp, 1) := by decide +kernel
theorem dX12_clash_72 : decode cX12_clash 72 = .ok (.ifCond .ne 7, 3) := by decide +kernel
theorem dX12_clash_75 : decode cX12_clash 75 = .ok (.iconst 1, 1) := by decide +kernel
theorem dX12_clash_76 : decode cX12_clash 76 = .ok (.goto 4, 3) := by decide +kernel
theorem dX12_clash_79 : decode cX12_clash 79 = .ok (.iconst 0, 1) := by decide +kernel
theorem dX12_clash_80 : decode cX12_clash 80 = .ok (.istore_n 2, 1) := by decide +kernel
theorem dX12_clash_81 : decode cX12_clash 81 = .ok (.iinc 3 1, 3) := by decide +kernel
theorem dX12_clash_84 : decode cX12_clash 84 = .ok (.goto (-80), 3) := by decide +kernel
theorem dX12_clash_87 : decode cX12_clash 87 = .ok (.iload_n 2, 1) := by decide +kernel
theorem dX12_clash_88 : decode cX12_clash 88 = .ok (.ireturn, 1) := by decide +kernel
theorem dX12_checks_0 : decode cX12_checks 0 = .ok (.aload_n 1, 1) := by decide +kernel
theorem dX12_checks_1 : decode cX12_checks 1 = .ok (.invokestatic 167, 3) := by decide +kernel
theorem dX12_checks_4 : decode cX12_checks 4 = .ok (.aload_n 0, 1) := by decide +kernel
theorem dX12_checks_5 : decode cX12_checks 5 = .ok (.invokevirtual 133, 3) := by decide +kernel
theorem dX12_checks_8 : decode cX12_checks 8 = .ok (.iconst (-1), 1) := by decide +kernel
theorem dX12_checks_9 : decode cX12_checks 9 = .ok (.ixor, 1) := by decide +kernel
theorem dX12_checks_10 : decode cX12_checks 10 = .ok (.iand, 1) := by decide +kernel
theorem dX12_checks_11 : decode cX12_checks 11 = .ok (.ifCond .eq 5, 3) := by decide +kernel
theorem dX12_checks_14 : decode cX12_checks 14 = .ok (.iconst 1, 1) := by decide +kernel
theorem dX12_checks_15 : decode cX12_checks 15 = .ok (.ireturn, 1) := by decide +kernel
theorem dX12_checks_16 : decode cX12_checks 16 = .ok (.iconst 0, 1) := by decide +kernel
theorem dX12_checks_17 : decode cX12_checks 17 = .ok (.istore_n 2, 1) := by decide +kernel
theorem dX12_checks_18 : decode cX12_checks 18 = .ok (.iconst 3, 1) := by decide +kernel
theorem dX12_checks_19 : decode cX12_checks 19 = .ok (.istore_n 3, 1) := by decide +kernel
theorem dX12_checks_20 : decode cX12_checks 20 = .ok (.iload_n 3, 1) := by decide +kernel
theorem dX12_checks_21 : decode cX12_checks 21 = .ok (.ifCond .lt 60, 3) := by decide +kernel
theorem dX12_checks_24 : decode cX12_checks 24 = .ok (.aload_n 1, 1) := by decide +kernel
theorem dX12_checks_25 : decode cX12_checks 25 = .ok (.iload_n 3, 1) := by decide +kernel
theorem dX12_checks_26 : decode cX12_checks 26 = .ok (.laload, 1) := by decide +kernel
theorem dX12_checks_27 : decode cX12_checks 27 = .ok (.aload_n 0, 1) := by decide +kernel
theorem dX12_checks_28 : decode cX12_checks 28 = .ok (.getfield 36, 3) := by decide +kernel
theorem dX12_checks_31 : decode cX12_checks 31 = .ok (.iload_n 3, 1) := by decide +kernel
theorem dX12_checks_32 : decode cX12_checks 32 = .ok (.laload, 1) := by decide +kernel
theorem dX12_checks_33 : decode cX12_checks 33 = .ok (.land, 1) := by decide +kernel
theorem dX12_checks_34 : decode cX12_checks 34 = .ok (.lconst 0, 1) := by decide +kernel
theorem dX12_checks_35 : decode cX12_checks 35 = .ok (.lcmp, 1) := by decide +kernel
theorem dX12_checks_36 : decode cX12_checks 36 = .ok (.ifCond .eq 12, 3) := by decide +kernel
theorem dX12_checks_39 : decode cX12_checks 39 = .ok (.iload_n 2, 1) := by decide +kernel
theorem dX12_checks_40 : decode cX12_checks 40 = .ok (.iconst 2, 1) := by decide +kernel
theorem dX12_checks_41 : decode cX12_checks 41 = .ok (.if_icmp .eq 7, 3) := by decide +kernel
theorem dX12_checks_44 : decode cX12_checks 44 = .ok (.iconst 3, 1) := by decide +kernel
theorem dX12_checks_45 : decode cX12_checks 45 = .ok (.goto 4, 3) := by decide +kernel
theorem dX12_checks_48 : decode cX12_checks 48 = .ok (.iload_n 2, 1) := by decide +kernel
theorem dX12_checks_49 : decode cX12_checks 49 = .ok (.istore_n 2, 1) := by decide +kernel
theorem dX12_checks_50 : decode cX12_checks 50 = .ok (.aload_n 0, 1) := by decide +kernel
theorem dX12_checks_51 : decode cX12_checks 51 = .ok (.getfield 33, 3) := by decide +kernel
theorem dX12_checks_54 : decode cX12_checks 54 = .ok (.iload_n 3, 1) := by decide +kernel
theorem dX12_checks_55 : decode cX12_checks 55 = .ok (.laload, 1) := by decide +kernel
theorem dX12_checks_56 : decode cX12_checks 56 = .ok (.aload_n 1, 1) := by decide +kernel
theorem dX12_checks_57 : decode cX12_checks 57 = .ok (.iload_n 3, 1) := by decide +kernel
theorem dX12_checks_58 : decode cX12_checks 58 = .ok (.laload, 1) := by decide +kernel
theorem dX12_checks_59 : decode cX12_checks 59 = .ok (.ldc2_w 137, 3) := by decide +kernel
theorem dX12_checks_62 : decode cX12_checks 62 = .ok (.lxor, 1) := by decide +kernel
theorem dX12_checks_63 : decode cX12_checks 63 = .ok (.land, 1) := by decide +kernel
theorem dX12_checks_64 : decode cX12_checks 64 = .ok (.lconst 0, 1) := by decide +kernel
theorem dX12_checks_65 : decode cX12_checks 65 = .ok (.lcmp, 1) := by decide +kernel
theorem dX12_checks_66 : decode cX12_checks 66 = .ok (.ifCond .eq 7, 3) := by decide +kernel
theorem dX12_checks_69 : decode cX12_checks 69 = .ok (.iconst 2, 1) := by decide +kernel
theorem dX12_checks_70 : decode cX12_checks 70 = .ok (.goto 4, 3) := by decide +kernel
theorem dX12_checks_73 : decode cX12_checks 73 = .ok (.iload_n 2, 1) := by decide +kernel
theorem dX12_checks_74 : decode cX12_checks 74 = .ok (.istore_n 2, 1) := by decide +kernel
theorem dX12_checks_75 : decode cX12_checks 75 = .ok (.iinc 3 (-1), 3) := by decide +kernel
theorem dX12_checks_78 : decode cX12_checks 78 = .ok (.goto (-58), 3) := by decide +kernel
theorem dX12_checks_81 : decode cX12_checks 81 = .ok (.iload_n 2, 1) := by decide +kernel
theorem dX12_checks_82 : decode cX12_checks 82 = .ok (.ireturn, 1) := by decide +kernel
set_option maxRecDepth 20000 in
set_option maxHeartbeats 1000000 in
theorem lp_X12_ones_4 {xs : Nat → Int32} {L d : Nat} {x : Int32} {h : ev_H} (hS : SH h)  : ∀ (n k : Nat), k + n = 16 → ∀ (y1 : Int32) (hK : ∀ (kx : Int32) (y1 : Int32), EV xs L (d + 0) 0 0 M_X12_ones 434 h 24 [some (.int x), some (.int y1), some (.int kx)] [] (fun sz' h' r => sz' = 434 ∧ h' = h ∧ ∃ x : Int32, r = [.int x])), EV xs L (d + 0) 0 0 M_X12_ones 434 h 4 [some (.int x), some (.int y1), some (.int (nI k))] [] (fun sz' h' r => sz' = 434 ∧ h' = h ∧ ∃ x : Int32, r = [.int x]) := by
  intro n
  induction n with
  | zero =>
    intro k hk y1 hK
    refine r_iload_n rfl dX12_ones_4 rfl ?_
    refine r_bipush (v := 16) rfl dX12_ones_5 (by decide) ?_
    refine r_icmp_ge (tgt := 24) rfl rfl dX12_ones_7 (fun _ => ?_) (fun zc => absurd (show 16 ≤ nI k from nI_le (a := 16) (b := k) (by omega) (by omega)) zc)
    exact hK (nI k) y1
  | succ n ih =>
    intro k hk y1 hK
    refine r_iload_n rfl dX12_ones_4 rfl ?_
    refine r_bipush (v := 16) rfl dX12_ones_5 (by decide) ?_
    refine r_icmp_ge (tgt := 24) rfl rfl dX12_ones_7 (fun zc => absurd zc (show ¬ 16 ≤ nI k from nI_ge (a := k) (b := 16) (by omega) (by omega))) (fun _ => ?_)
    refine r_iload_n rfl dX12_ones_10 rfl ?_
    refine r_iload_n rfl dX12_ones_11 rfl ?_
    refine r_iload_n rfl dX12_ones_12 rfl ?_
    refine r_ishr rfl dX12_ones_13 ?_
    refine r_iconst (v := 1) rfl dX12_ones_14 (by decide) ?_
    refine r_iand rfl dX12_ones_15 ?_
    refine r_iadd rfl dX12_ones_16 ?_
    refine r_topi (fun x151 e152 => ?_)
    refine r_istore_n (ls' := [some (.int x), some (.int x151), some (.int (nI k))]) rfl dX12_ones_17 (Nat.le_of_ble_eq_true rfl) rfl ?_
    refine r_iinc (y := nI (k + 1)) (ls' := [some (.int x), some (.int x151), some (.int (nI (k + 1)))]) rfl dX12_ones_18 rfl (nI_1 k) (Nat.le_of_ble_eq_true rfl) rfl ?_
    refine r_goto (pc' := 4) rfl dX12_ones_21 ?_
    exact ih (k + 1) (by omega) x151 hK
set_option maxRecDepth 20000 in
set_option maxHeartbeats 1000000 in
theorem s_X12_ones {xs : Nat → Int32} {L d : Nat} {h : ev_H} {x : Int32} (hS : SH h)  : EV xs L (d + 0) 0 0 M_X12_ones 434 h 0 [some (.int x), none, none] [] (fun sz' h' r => sz' = 434 ∧ h' = h ∧ ∃ x : Int32, r = [.int x]) := by
  refine r_iconst (v := 0) rfl dX12_ones_0 (by decide) ?_
  refine r_istore_n (ls' := [some (.int x), some (.int 0), none]) rfl dX12_ones_1 (Nat.le_of_ble_eq_true rfl) rfl ?_
  refine r_iconst (v := 0) rfl dX12_ones_2 (by decide) ?_
  refine r_istore_n (ls' := [some (.int x), some (.int 0), some (.int 0)]) rfl dX12_ones_3 (Nat.le_of_ble_eq_true rfl) rfl ?_
  refine lp_X12_ones_4 hS  (16 - 0) 0 (by omega) 0 ?_
  intro kx51 w52
  refine r_iload_n rfl dX12_ones_24 rfl ?_
  exact r_ret dX12_ones_25 (rt_i rfl) ⟨rfl, rfl, ⟨_, rfl⟩⟩
set_option maxRecDepth 20000 in
set_option maxHeartbeats 1000000 in
theorem s_X12_has {xs : Nat → Int32} {L d : Nat} {h : ev_H} {a n q w : Nat} (hS : SH h) (ha : LA a n) (hn : n ≤ 480) (hw : w < 256) (hq : q + w / 64 < n) : EV xs L (d + 0) 0 0 M_X12_has 434 h 0 [some (.ref a), some (.int (nI q)), some (.int (nI w))] [] (fun sz' h' r => sz' = 434 ∧ h' = h ∧ ∃ x : Int32, (x = 0 ∨ x = 1) ∧ r = [.int x]) := by
  refine r_aload_n rfl dX12_has_0 rfl ?_
  refine r_iload_n rfl dX12_has_1 rfl ?_
  refine r_iload_n rfl dX12_has_2 rfl ?_
  refine r_bipush (v := 6) rfl dX12_has_3 (by decide) ?_
  refine r_ishr rfl dX12_has_5 ?_
  refine r_eqi (y := nI (w / 64)) (show (nI w) >>> (6 &&& 31) = nI (w / 64) from pk_shrN (n := w) (by omega) ((6 : Int32) &&& 31) 6 (by decide)) ?_
  refine r_iadd rfl dX12_has_6 ?_
  refine r_eqi (y := nI (q + (w / 64))) (show (nI q) + (nI (w / 64)) = nI (q + (w / 64)) from nI_add q (w / 64)) ?_
  obtain ⟨g51, f52⟩ := hS.la ha
  refine r_laldv (jn := q + (w / 64)) (v := g51 (q + (w / 64))) rfl dX12_has_7 ha.1 f52 (vp_in_nI (n := q + (w / 64)) (by omega) (by omega)) (nI_clamp (n := q + (w / 64)) (by omega)) rfl ?_
  refine r_iload_n rfl dX12_has_8 rfl ?_
  refine r_bipush (v := 63) rfl dX12_has_9 (by decide) ?_
  refine r_iand rfl dX12_has_11 ?_
  refine r_eqi (y := nI (w % 64)) (show (nI w) &&& 63 = nI (w % 64) from pk_andN (n := w) (by omega) (m := 63) 6 (by decide)) ?_
  refine r_lshr rfl dX12_has_12 ?_
  refine r_lconst (v := 1) rfl dX12_has_13 (by decide) ?_
  refine r_land rfl dX12_has_14 ?_
  refine r_lconst (v := 1) rfl dX12_has_15 (by decide) ?_
  refine r_lcmp rfl dX12_has_16 ?_
  refine r_if_ne (tgt := 24) rfl rfl dX12_has_17 (fun c53 => ?_) (fun c53 => ?_)
  · refine r_iconst (v := 0) rfl dX12_has_24 (by decide) ?_
    exact r_ret dX12_has_25 (rt_z rfl (Or.inl rfl)) ⟨rfl, rfl, ⟨_, (Or.inl rfl), rfl⟩⟩
  · refine r_iconst (v := 1) rfl dX12_has_20 (by decide) ?_
    refine r_goto (pc' := 25) rfl dX12_has_21 ?_
    exact r_ret dX12_has_25 (rt_z rfl (Or.inr rfl)) ⟨rfl, rfl, ⟨_, (Or.inr rfl), rfl⟩⟩
set_option maxRecDepth 20000 in
set_option maxHeartbeats 1000000 in
theorem s_X12_isSo {xs : Nat → Int32} {L d : Nat} {h : ev_H} {x y z : Int32} (hS : SH h)  : EV xs L (d + 0) 0 0 M_X12_isSo 434 h 0 [some (.int x), some (.int y), some (.int z)] [] (fun sz' h' r => sz' = 434 ∧ h' = h ∧ ∃ x : Int32, (x = 0 ∨ x = 1) ∧ r = [.int x]) := by
  refine r_iload_n rfl dX12_isSo_0 rfl ?_
  refine r_iload_n rfl dX12_isSo_1 rfl ?_
  refine r_iand rfl dX12_isSo_2 ?_
  refine r_if_ne (tgt := 14) rfl rfl dX12_isSo_3 (fun c51 => ?_) (fun c51 => ?_)
  · refine r_iconst (v := 1) rfl dX12_isSo_14 (by decide) ?_
    refine r_goto (pc' := 19) rfl dX12_isSo_15 ?_
    exact r_ret dX12_isSo_19 (rt_z rfl (Or.inr rfl)) ⟨rfl, rfl, ⟨_, (Or.inr rfl), rfl⟩⟩
  · refine r_iload_n rfl dX12_isSo_6 rfl ?_
    refine r_iload_n rfl dX12_isSo_7 rfl ?_
    refine r_iconst (v := (-1)) rfl dX12_isSo_8 (by decide) ?_
    refine r_ixor rfl dX12_isSo_9 ?_
    refine r_iand rfl dX12_isSo_10 ?_
    refine r_if_eq (tgt := 18) rfl rfl dX12_isSo_11 (fun c52 => ?_) (fun c52 => ?_)
    · refine r_iconst (v := 0) rfl dX12_isSo_18 (by decide) ?_
      exact r_ret dX12_isSo_19 (rt_z rfl (Or.inl rfl)) ⟨rfl, rfl, ⟨_, (Or.inl rfl), rfl⟩⟩
    · refine r_iconst (v := 1) rfl dX12_isSo_14 (by decide) ?_
      refine r_goto (pc' := 19) rfl dX12_isSo_15 ?_
      exact r_ret dX12_isSo_19 (rt_z rfl (Or.inr rfl)) ⟨rfl, rfl, ⟨_, (Or.inr rfl), rfl⟩⟩
set_option maxRecDepth 20000 in
set_option maxHeartbeats 1000000 in
theorem lp_X12_lettersOf_4 {xs : Nat → Int32} {L d : Nat} {th : Int32} {tr : Int64} {ty nx tk pl va fa ss wg : Int32} {c m : Nat} {x : Int32} {h : ev_H} (hS : SH h) (h5 : h 420 = c420 th tr ty nx tk pl va fa (nI c) (nI m) ss wg) (hc : c ≤ 16) (hm : m ≤ 24) : ∀ (n k : Nat), k + n = c → ∀ (y2 : Int32) (hK : ∀ (kx : Int32) (y2 : Int32), EV xs L (d + 0) 0 0 M_X12_lettersOf 434 h 61 [some (.ref 420), some (.int x), some (.int y2), some (.int kx)] [] (fun sz' h' r => sz' = 434 ∧ h' = h ∧ ∃ x : Int32, r = [.int x])), EV xs L (d + 0) 0 0 M_X12_lettersOf 434 h 4 [some (.ref 420), some (.int x), some (.int y2), some (.int (nI k))] [] (fun sz' h' r => sz' = 434 ∧ h' = h ∧ ∃ x : Int32, r = [.int x]) := by
  intro n
  induction n with
  | zero =>
    intro k hk y2 hK
    refine r_iload_n rfl dX12_lettersOf_4 rfl ?_
    refine r_aload_n rfl dX12_lettersOf_5 rfl ?_
    refine r_getv 9 rfl dX12_lettersOf_6 (show 2 ≤ 420 ∧ 420 < 434 by decide) h5 fl_X12_112 rfl ?_
    refine r_icmp_ge (tgt := 61) rfl rfl dX12_lettersOf_9 (fun _ => ?_) (fun zc => absurd (show (nI c) ≤ nI k from nI_le (a := c) (b := k) (by omega) (by omega)) zc)
    exact hK (nI k) y2
  | succ n ih =>
    intro k hk y2 hK
    refine r_iload_n rfl dX12_lettersOf_4 rfl ?_
    refine r_aload_n rfl dX12_lettersOf_5 rfl ?_
    refine r_getv 9 rfl dX12_lettersOf_6 (show 2 ≤ 420 ∧ 420 < 434 by decide) h5 fl_X12_112 rfl ?_
    refine r_icmp_ge (tgt := 61) rfl rfl dX12_lettersOf_9 (fun zc => absurd zc (show ¬ (nI c) ≤ nI k from nI_ge (a := k) (b := c) (by omega) (by omega))) (fun _ => ?_)
    refine r_iload_n rfl dX12_lettersOf_12 rfl ?_
    refine r_aload_n rfl dX12_lettersOf_13 rfl ?_
    refine r_getv 13 rfl dX12_lettersOf_14 (show 2 ≤ 420 ∧ 420 < 434 by decide) h5 fl_X12_17 rfl ?_
    refine r_bipush (v := 6) rfl dX12_lettersOf_17 (by decide) ?_
    refine r_iload_n rfl dX12_lettersOf_19 rfl ?_
    refine r_imul rfl dX12_lettersOf_20 ?_
    refine r_eqi (y := nI (6 * k)) (show 6 * (nI k) = nI (6 * k) from pk_mul 6 k) ?_
    refine r_iconst (v := 2) rfl dX12_lettersOf_21 (by decide) ?_
    refine r_iadd rfl dX12_lettersOf_22 ?_
    refine r_eqi (y := nI ((6 * k) + 2)) (show (nI (6 * k)) + 2 = nI ((6 * k) + 2) from nI_add (6 * k) 2) ?_
    obtain ⟨g151, f152⟩ := hS.li LI_422
    refine r_ialdv (jn := (6 * k) + 2) (v := g151 ((6 * k) + 2)) rfl dX12_lettersOf_23 (show 2 ≤ 422 ∧ 422 < 434 by decide) f152 (vp_in_nI (n := (6 * k) + 2) (by omega) (by omega)) (nI_clamp (n := (6 * k) + 2) (by omega)) rfl ?_
    refine r_iload_n rfl dX12_lettersOf_24 rfl ?_
    have J153 : ∀ v154 : Int32, EV xs L (d + 0) 0 0 M_X12_lettersOf 434 h 53 [some (.ref 420), some (.int x), some (.int y2), some (.int (nI k))] (.int v154 :: .int y2 :: []) (fun sz' h' r => sz' = 434 ∧ h' = h ∧ ∃ x : Int32, r = [.int x]) := by
      intro v154
      refine r_ior rfl dX12_lettersOf_53 ?_
      refine r_topi (fun x155 e156 => ?_)
      refine r_istore_n (ls' := [some (.ref 420), some (.int x), some (.int x155), some (.int (nI k))]) rfl dX12_lettersOf_54 (Nat.le_of_ble_eq_true rfl) rfl ?_
      refine r_iinc (y := nI (k + 1)) (ls' := [some (.ref 420), some (.int x), some (.int x155), some (.int (nI (k + 1)))]) rfl dX12_lettersOf_55 rfl (nI_1 k) (Nat.le_of_ble_eq_true rfl) rfl ?_
      refine r_goto (pc' := 4) rfl dX12_lettersOf_58 ?_
      exact ih (k + 1) (by omega) x155 hK
    refine r_icmp_ne (tgt := 52) rfl rfl dX12_lettersOf_25 (fun c157 => ?_) (fun c157 => ?_)
    · refine r_iconst (v := 0) rfl dX12_lettersOf_52 (by decide) ?_
      exact J153 _
    · refine r_aload_n rfl dX12_lettersOf_28 rfl ?_
      refine r_getv 13 rfl dX12_lettersOf_29 (show 2 ≤ 420 ∧ 420 < 434 by decide) h5 fl_X12_17 rfl ?_
      refine r_bipush (v := 6) rfl dX12_lettersOf_32 (by decide) ?_
      refine r_iload_n rfl dX12_lettersOf_34 rfl ?_
      refine r_imul rfl dX12_lettersOf_35 ?_
      refine r_eqi (y := nI (6 * k)) (show 6 * (nI k) = nI (6 * k) from pk_mul 6 k) ?_
      obtain ⟨g158, f159⟩ := hS.li LI_422
      refine r_ialdv (jn := 6 * k) (v := g158 (6 * k)) rfl dX12_lettersOf_36 (show 2 ≤ 422 ∧ 422 < 434 by decide) f159 (vp_in_nI (n := 6 * k) (by omega) (by omega)) (nI_clamp (n := 6 * k) (by omega)) rfl ?_
      refine r_aload_n rfl dX12_lettersOf_37 rfl ?_
      refine r_getv 13 rfl dX12_lettersOf_38 (show 2 ≤ 420 ∧ 420 < 434 by decide) h5 fl_X12_17 rfl ?_
      refine r_bipush (v := 6) rfl dX12_lettersOf_41 (by decide) ?_
      refine r_iload_n rfl dX12_lettersOf_43 rfl ?_
      refine r_imul rfl dX12_lettersOf_44 ?_
      refine r_eqi (y := nI (6 * k)) (show 6 * (nI k) = nI (6 * k) from pk_mul 6 k) ?_
      refine r_iconst (v := 1) rfl dX12_lettersOf_45 (by decide) ?_
      refine r_iadd rfl dX12_lettersOf_46 ?_
      refine r_eqi (y := nI ((6 * k) + 1)) (show (nI (6 * k)) + 1 = nI ((6 * k) + 1) from nI_add (6 * k) 1) ?_
      obtain ⟨g160, f161⟩ := hS.li LI_422
      refine r_ialdv (jn := (6 * k) + 1) (v := g160 ((6 * k) + 1)) rfl dX12_lettersOf_47 (show 2 ≤ 422 ∧ 422 < 434 by decide) f161 (vp_in_nI (n := (6 * k) + 1) (by omega) (by omega)) (nI_clamp (n := (6 * k) + 1) (by omega)) rfl ?_
      refine r_ior rfl dX12_lettersOf_48 ?_
      refine r_goto (pc' := 53) rfl dX12_lettersOf_49 ?_
      exact J153 _
set_option maxRecDepth 20000 in
set_option maxHeartbeats 1000000 in
theorem s_X12_lettersOf {xs : Nat → Int32} {L d : Nat} {h : ev_H} {th : Int32} {tr : Int64} {ty nx tk pl va fa ss wg : Int32} {c m : Nat} {x : Int32} (hS : SH h) (h5 : h 420 = c420 th tr ty nx tk pl va fa (nI c) (nI m) ss wg) (hc : c ≤ 16) (hm : m ≤ 24) : EV xs L (d + 0) 0 0 M_X12_lettersOf 434 h 0 [some (.ref 420), some (.int x), none, none] [] (fun sz' h' r => sz' = 434 ∧ h' = h ∧ ∃ x : Int32, r = [.int x]) := by
  refine r_iconst (v := 0) rfl dX12_lettersOf_0 (by decide) ?_
  refine r_istore_n (ls' := [some (.ref 420), some (.int x), some (.int 0), none]) rfl dX12_lettersOf_1 (Nat.le_of_ble_eq_true rfl) rfl ?_
  refine r_iconst (v := 0) rfl dX12_lettersOf_2 (by decide) ?_
  refine r_istore_n (ls' := [some (.ref 420), some (.int x), some (.int 0), some (.int 0)]) rfl dX12_lettersOf_3 (Nat.le_of_ble_eq_true rfl) rfl ?_
  refine lp_X12_lettersOf_4 hS h5 hc hm (c - 0) 0 (by omega) 0 ?_
  intro kx51 w52
  refine r_iload_n rfl dX12_lettersOf_61 rfl ?_
  exact r_ret dX12_lettersOf_62 (rt_i rfl) ⟨rfl, rfl, ⟨_, rfl⟩⟩
set_option maxRecDepth 20000 in
set_option maxHeartbeats 1000000 in
theorem s_X12_shared {xs : Nat → Int32} {L d : Nat} {h : ev_H} {th : Int32} {tr : Int64} {ty nx tk pl va fa ss wg : Int32} {c m : Nat} (hS : SH h) (h5 : h 420 = c420 th tr ty nx tk pl va fa (nI c) (nI m) ss wg) (hc : c ≤ 16) (hm : m ≤ 24) : EV xs L (d + 1) 0 0 M_X12_shared 434 h 0 [some (.ref 420)] [] (fun sz' h' r => sz' = 434 ∧ h' = h ∧ ∃ x : Int32, r = [.int x]) := by
  refine r_aload_n rfl dX12_shared_0 rfl ?_
  refine r_iconst (v := 1) rfl dX12_shared_1 (by decide) ?_
  refine cl_X12_130 rfl rfl dX12_shared_2 (show 2 ≤ 420 ∧ 420 < 434 by decide).1 (show 2 ≤ 420 ∧ 420 < 434 by decide).2 h5 (Nat.le_of_ble_eq_true rfl) (s_X12_lettersOf hS h5 hc hm) ?_
  rintro _ h51 _ ⟨rfl, e52, x53, rfl⟩
  replace e52 := e52.symm
  subst e52
  refine r_aload_n rfl dX12_shared_5 rfl ?_
  refine r_iconst (v := 2) rfl dX12_shared_6 (by decide) ?_
  refine cl_X12_130 rfl rfl dX12_shared_7 (show 2 ≤ 420 ∧ 420 < 434 by decide).1 (show 2 ≤ 420 ∧ 420 < 434 by decide).2 h5 (Nat.le_of_ble_eq_true rfl) (s_X12_lettersOf hS h5 hc hm) ?_
  rintro _ h54 _ ⟨rfl, e55, x56, rfl⟩
  replace e55 := e55.symm
  subst e55
  refine r_iand rfl dX12_shared_10 ?_
  exact r_ret dX12_shared_11 (rt_i rfl) ⟨rfl, rfl, ⟨_, rfl⟩⟩
set_option maxRecDepth 20000 in
set_option maxHeartbeats 1000000 in
theorem lp_X12_many_4 {xs : Nat → Int32} {L d : Nat} {a : Nat} {h : ev_H} (hS : SH h) (ha : LA a 4) : ∀ (n k : Nat), k + n = 256 → ∀ (y1 : Int32) (hK : ∀ (kx : Int32) (y1 : Int32), EV xs L (d + 1) 0 0 M_X12_many 434 h 34 [some (.ref a), some (.int y1), some (.int kx)] [] (fun sz' h' r => sz' = 434 ∧ h' = h ∧ ∃ x : Int32, r = [.int x])), EV xs L (d + 1) 0 0 M_X12_many 434 h 4 [some (.ref a), some (.int y1), some (.int (nI k))] [] (fun sz' h' r => sz' = 434 ∧ h' = h ∧ ∃ x : Int32, r = [.int x]) := by
  intro n
  induction n with
  | zero =>
    intro k hk y1 hK
    refine r_iload_n rfl dX12_many_4 rfl ?_
    refine r_sipush (v := 256) rfl dX12_many_5 (by decide) ?_
    refine r_icmp_ge (tgt := 34) rfl rfl dX12_many_8 (fun _ => ?_) (fun zc => absurd (show 256 ≤ nI k from nI_le (a := 256) (b := k) (by omega) (by omega)) zc)
    exact hK (nI k) y1
  | succ n ih =>
    intro k hk y1 hK
    refine r_iload_n rfl dX12_many_4 rfl ?_
    refine r_sipush (v := 256) rfl dX12_many_5 (by decide) ?_
    refine r_icmp_ge (tgt := 34) rfl rfl dX12_many_8 (fun zc => absurd zc (show ¬ 256 ≤ nI k from nI_ge (a := k) (b := 256) (by omega) (by omega))) (fun _ => ?_)
    refine r_iload_n rfl dX12_many_11 rfl ?_
    refine r_aload_n rfl dX12_many_12 rfl ?_
    refine r_iconst (v := 0) rfl dX12_many_13 (by decide) ?_
    refine r_iload_n rfl dX12_many_14 rfl ?_
    refine cl_X12_143 rfl rfl dX12_many_15 (Nat.le_of_ble_eq_true rfl) (s_X12_has hS ha (by omega) (q := 0) (w := k) (by omega) (by omega)) ?_
    rintro _ h151 _ ⟨rfl, e152, x153, z154, rfl⟩
    replace e152 := e152.symm
    subst e152
    have J155 : ∀ v156 : Int32, EV xs L (d + 1) 0 0 M_X12_many 434 h 26 [some (.ref a), some (.int y1), some (.int (nI k))] (.int v156 :: .int y1 :: []) (fun sz' h' r => sz' = 434 ∧ h' = h ∧ ∃ x : Int32, r = [.int x]) := by
      intro v156
      refine r_iadd rfl dX12_many_26 ?_
      refine r_topi (fun x157 e158 => ?_)
      refine r_istore_n (ls' := [some (.ref a), some (.int x157), some (.int (nI k))]) rfl dX12_many_27 (Nat.le_of_ble_eq_true rfl) rfl ?_
      refine r_iinc (y := nI (k + 1)) (ls' := [some (.ref a), some (.int x157), some (.int (nI (k + 1)))]) rfl dX12_many_28 rfl (nI_1 k) (Nat.le_of_ble_eq_true rfl) rfl ?_
      refine r_goto (pc' := 4) rfl dX12_many_31 ?_
      exact ih (k + 1) (by omega) x157 hK
    refine r_if_eq (tgt := 25) rfl rfl dX12_many_18 (fun c159 => ?_) (fun c159 => ?_)
    · refine r_iconst (v := 0) rfl dX12_many_25 (by decide) ?_
      exact J155 _
    · refine r_iconst (v := 1) rfl dX12_many_21 (by decide) ?_
      refine r_goto (pc' := 26) rfl dX12_many_22 ?_
      exact J155 _
set_option maxRecDepth 20000 in
set_option maxHeartbeats 1000000 in
theorem s_X12_many {xs : Nat → Int32} {L d : Nat} {h : ev_H} {a : Nat} (hS : SH h) (ha : LA a 4) : EV xs L (d + 1) 0 0 M_X12_many 434 h 0 [some (.ref a), none, none] [] (fun sz' h' r => sz' = 434 ∧ h' = h ∧ ∃ x : Int32, r = [.int x]) := by
  refine r_iconst (v := 0) rfl dX12_many_0 (by decide) ?_
  refine r_istore_n (ls' := [some (.ref a), some (.int 0), none]) rfl dX12_many_1 (Nat.le_of_ble_eq_true rfl) rfl ?_
  refine r_iconst (v := 0) rfl dX12_many_2 (by decide) ?_
  refine r_istore_n (ls' := [some (.ref a), some (.int 0), some (.int 0)]) rfl dX12_many_3 (Nat.le_of_ble_eq_true rfl) rfl ?_
  refine lp_X12_many_4 hS ha (256 - 0) 0 (by omega) 0 ?_
  intro kx51 w52
  refine r_iload_n rfl dX12_many_34 rfl ?_
  exact r_ret dX12_many_35 (rt_i rfl) ⟨rfl, rfl, ⟨_, rfl⟩⟩
set_option maxRecDepth 20000 in
set_option maxHeartbeats 1000000 in
theorem lp_X12_looksOf_13 {xs : Nat → Int32} {L d : Nat} {a : Nat} {nf2 : Nat} {h : ev_H} (hS : SH h) (ha : LA a 4) (hnf2 : nf2 < 256) : ∀ (n ka : Nat), ka + n = 8 → ∀ (y1 : Int32) (hK : ∀ (kx : Int32) (y1 : Int32), EV xs L (d + 1) 0 0 M_X12_looksOf 434 h 57 [some (.ref a), some (.int y1), some (.int (nI nf2)), some (.int kx)] [] (fun sz' h' r => sz' = 434 ∧ h' = h ∧ ∃ x : Int32, r = [.int x])), EV xs L (d + 1) 0 0 M_X12_looksOf 434 h 13 [some (.ref a), some (.int y1), some (.int (nI nf2)), some (.int (nI ka))] [] (fun sz' h' r => sz' = 434 ∧ h' = h ∧ ∃ x : Int32, r = [.int x]) := by
  intro n
  induction n with
  | zero =>
    intro ka hk y1 hK
    refine r_iload_n rfl dX12_looksOf_13 rfl ?_
    refine r_bipush (v := 8) rfl dX12_looksOf_14 (by decide) ?_
    refine r_icmp_ge (tgt := 57) rfl rfl dX12_looksOf_16 (fun _ => ?_) (fun zc => absurd (show 8 ≤ nI ka from nI_le (a := 8) (b := ka) (by omega) (by omega)) zc)
    exact hK (nI ka) y1
  | succ n ih =>
    intro ka hk y1 hK
    refine r_iload_n rfl dX12_looksOf_13 rfl ?_
    refine r_bipush (v := 8) rfl dX12_looksOf_14 (by decide) ?_
    refine r_icmp_ge (tgt := 57) rfl rfl dX12_looksOf_16 (fun zc => absurd zc (show ¬ 8 ≤ nI ka from nI_ge (a := ka) (b := 8) (by omega) (by omega))) (fun _ => ?_)
    refine r_iload_n rfl dX12_looksOf_19 rfl ?_
    refine r_aload_n rfl dX12_looksOf_20 rfl ?_
    refine r_iconst (v := 0) rfl dX12_looksOf_21 (by decide) ?_
    refine r_iload_n rfl dX12_looksOf_22 rfl ?_
    refine cl_X12_143 rfl rfl dX12_looksOf_23 (Nat.le_of_ble_eq_true rfl) (s_X12_has hS ha (by omega) (q := 0) (w := nf2) (by omega) (by omega)) ?_
    rintro _ h251 _ ⟨rfl, e252, x253, z254, rfl⟩
    replace e252 := e252.symm
    subst e252
    have J255 : ∀ v256 : Int32, EV xs L (d + 1) 0 0 M_X12_looksOf 434 h 49 [some (.ref a), some (.int y1), some (.int (nI nf2)), some (.int (nI ka))] (.int v256 :: .int y1 :: []) (fun sz' h' r => sz' = 434 ∧ h' = h ∧ ∃ x : Int32, r = [.int x]) := by
      intro v256
      refine r_ior rfl dX12_looksOf_49 ?_
      refine r_topi (fun x257 e258 => ?_)
      refine r_istore_n (ls' := [some (.ref a), some (.int x257), some (.int (nI nf2)), some (.int (nI ka))]) rfl dX12_looksOf_50 (Nat.le_of_ble_eq_true rfl) rfl ?_
      refine r_iinc (y := nI (ka + 1)) (ls' := [some (.ref a), some (.int x257), some (.int (nI nf2)), some (.int (nI (ka + 1)))]) rfl dX12_looksOf_51 rfl (nI_1 ka) (Nat.le_of_ble_eq_true rfl) rfl ?_
      refine r_goto (pc' := 13) rfl dX12_looksOf_54 ?_
      exact ih (ka + 1) (by omega) x257 hK
    refine r_if_eq (tgt := 48) rfl rfl dX12_looksOf_26 (fun c259 => ?_) (fun c259 => ?_)
    · refine r_iconst (v := 0) rfl dX12_looksOf_48 (by decide) ?_
      exact J255 _
    · refine r_aload_n rfl dX12_looksOf_29 rfl ?_
      refine r_iconst (v := 0) rfl dX12_looksOf_30 (by decide) ?_
      refine r_iload_n rfl dX12_looksOf_31 rfl ?_
      refine r_iconst (v := 1) rfl dX12_looksOf_32 (by decide) ?_
      refine r_iload_n rfl dX12_looksOf_33 rfl ?_
      refine r_ishl rfl dX12_looksOf_34 ?_
      refine r_ixor rfl dX12_looksOf_35 ?_
      refine r_eqi (y := nI (xr8 nf2 ka)) (show (nI nf2) ^^^ (1 <<< ((nI ka) &&& 31)) = nI (xr8 nf2 ka) from xr8_e (w := nf2) (l := ka) (by omega) (by omega)) ?_
      have q260 := xr8_lt (w := nf2) (l := ka) (by omega) (by omega)
      refine cl_X12_143 rfl rfl dX12_looksOf_36 (Nat.le_of_ble_eq_true rfl) (s_X12_has hS ha (by omega) (q := 0) (w := xr8 nf2 ka) (by omega) (by omega)) ?_
      rintro _ h261 _ ⟨rfl, e262, x263, z264, rfl⟩
      replace e262 := e262.symm
      subst e262
      refine r_if_ne (tgt := 48) rfl rfl dX12_looksOf_39 (fun c265 => ?_) (fun c265 => ?_)
      · refine r_iconst (v := 0) rfl dX12_looksOf_48 (by decide) ?_
        exact J255 _
      · refine r_iconst (v := 1) rfl dX12_looksOf_42 (by decide) ?_
        refine r_iload_n rfl dX12_looksOf_43 rfl ?_
        refine r_ishl rfl dX12_looksOf_44 ?_
        refine r_goto (pc' := 49) rfl dX12_looksOf_45 ?_
        exact J255 _
set_option maxRecDepth 20000 in
set_option maxHeartbeats 1000000 in
theorem lp_X12_looksOf_4 {xs : Nat → Int32} {L d : Nat} {a : Nat} {h : ev_H} (hS : SH h) (ha : LA a 4) : ∀ (n k : Nat), k + n = 256 → ∀ (y1 : Int32) (u3 : Option Value) (hK : ∀ (kx : Int32) (y1 : Int32) (u3 : Option Value), EV xs L (d + 1) 0 0 M_X12_looksOf 434 h 63 [some (.ref a), some (.int y1), some (.int kx), u3] [] (fun sz' h' r => sz' = 434 ∧ h' = h ∧ ∃ x : Int32, r = [.int x])), EV xs L (d + 1) 0 0 M_X12_looksOf 434 h 4 [some (.ref a), some (.int y1), some (.int (nI k)), u3] [] (fun sz' h' r => sz' = 434 ∧ h' = h ∧ ∃ x : Int32, r = [.int x]) := by
  intro n
  induction n with
  | zero =>
    intro k hk y1 u3 hK
    refine r_iload_n rfl dX12_looksOf_4 rfl ?_
    refine r_sipush (v := 256) rfl dX12_looksOf_5 (by decide) ?_
    refine r_icmp_ge (tgt := 63) rfl rfl dX12_looksOf_8 (fun _ => ?_) (fun zc => absurd (show 256 ≤ nI k from nI_le (a := 256) (b := k) (by omega) (by omega)) zc)
    exact hK (nI k) y1 u3
  | succ n ih =>
    intro k hk y1 u3 hK
    refine r_iload_n rfl dX12_looksOf_4 rfl ?_
    refine r_sipush (v := 256) rfl dX12_looksOf_5 (by decide) ?_
    refine r_icmp_ge (tgt := 63) rfl rfl dX12_looksOf_8 (fun zc => absurd zc (show ¬ 256 ≤ nI k from nI_ge (a := k) (b := 256) (by omega) (by omega))) (fun _ => ?_)
    refine r_iconst (v := 0) rfl dX12_looksOf_11 (by decide) ?_
    refine r_istore_n (ls' := [some (.ref a), some (.int y1), some (.int (nI k)), some (.int 0)]) rfl dX12_looksOf_12 (Nat.le_of_ble_eq_true rfl) rfl ?_
    refine lp_X12_looksOf_13 hS ha (by omega) (8 - 0) 0 (by omega) y1 ?_
    intro kx151 w152
    refine r_iinc (y := nI (k + 1)) (ls' := [some (.ref a), some (.int w152), some (.int (nI (k + 1))), some (.int kx151)]) rfl dX12_looksOf_57 rfl (nI_1 k) (Nat.le_of_ble_eq_true rfl) rfl ?_
    refine r_goto (pc' := 4) rfl dX12_looksOf_60 ?_
    exact ih (k + 1) (by omega) w152 (some (.int kx151)) hK
set_option maxRecDepth 20000 in
set_option maxHeartbeats 1000000 in
theorem s_X12_looksOf {xs : Nat → Int32} {L d : Nat} {h : ev_H} {a : Nat} (hS : SH h) (ha : LA a 4) : EV xs L (d + 1) 0 0 M_X12_looksOf 434 h 0 [some (.ref a), none, none, none] [] (fun sz' h' r => sz' = 434 ∧ h' = h ∧ ∃ x : Int32, r = [.int x]) := by
  refine r_iconst (v := 0) rfl dX12_looksOf_0 (by decide) ?_
  refine r_istore_n (ls' := [some (.ref a), some (.int 0), none, none]) rfl dX12_looksOf_1 (Nat.le_of_ble_eq_true rfl) rfl ?_
  refine r_iconst (v := 0) rfl dX12_looksOf_2 (by decide) ?_
  refine r_istore_n (ls' := [some (.ref a), some (.int 0), some (.int 0), none]) rfl dX12_looksOf_3 (Nat.le_of_ble_eq_true rfl) rfl ?_
  refine lp_X12_looksOf_4 hS ha (256 - 0) 0 (by omega) 0 none ?_
  intro kx51 w52 w53
  refine r_iload_n rfl dX12_looksOf_63 rfl ?_
  exact r_ret dX12_looksOf_64 (rt_i rfl) ⟨rfl, rfl, ⟨_, rfl⟩⟩
set_option maxRecDepth 20000 in
set_option maxHeartbeats 1000000 in
theorem s_X12_isWay {xs : Nat → Int32} {L d : Nat} {h : ev_H} {x : Int32} (hS : SH h)  : EV xs L (d + 1) 0 0 M_X12_isWay 434 h 0 [some (.int x)] [] (fun sz' h' r => sz' = 434 ∧ h' = h ∧ r = [.int (inR x 0 2)]) := by
  refine r_iload_n rfl dX12_isWay_0 rfl ?_
  refine r_iconst (v := 0) rfl dX12_isWay_1 (by decide) ?_
  refine r_iconst (v := 2) rfl dX12_isWay_2 (by decide) ?_
  refine cl_X12_60 rfl rfl dX12_isWay_3 (Nat.le_of_ble_eq_true rfl) s_X12_in ?_
  rintro _ h51 _ ⟨rfl, e52, rfl⟩
  replace e52 := e52.symm
  subst e52
  exact r_ret dX12_isWay_6 (rt_z rfl (inR_z _ _ _)) ⟨rfl, rfl, rfl⟩
theorem isLn {x : Int32} {n : Nat} (hn : n ≤ 40) (c : ¬ inR x 0 (nI n - 1) = 0) : ∃ j : Nat, j < n ∧ x = nI j := by
  rcases Nat.eq_zero_or_pos n with rfl | q
  · exfalso
    apply c
    unfold inR
    split
    · rfl
    · rename_i h1
      rw [if_pos (show nI 0 - 1 < x from ?_)]
      rw [Int32.lt_iff_toInt_lt] at h1 ⊢
      have e1 : (0 : Int32).toInt = 0 := rfl
      have e2 : (nI 0 - 1).toInt = -1 := rfl
      omega
  · obtain ⟨k, rfl⟩ : ∃ k, n = k + 1 := ⟨n - 1, by omega⟩
    rw [nI_pred] at c
    obtain ⟨j, -, hj, rfl⟩ := inR_nat (a := 0) (b := k) (by omega) c
    exact ⟨j, by omega, rfl⟩
set_option maxRecDepth 20000 in
set_option maxHeartbeats 1000000 in
theorem s_X12_isLine {xs : Nat → Int32} {L d : Nat} {h : ev_H} {th : Int32} {tr : Int64} {ty nx tk pl va fa ss wg : Int32} {c m : Nat} {x : Int32} (hS : SH h) (h5 : h 420 = c420 th tr ty nx tk pl va fa (nI c) (nI m) ss wg) (hc : c ≤ 16) (hm : m ≤ 24) : EV xs L (d + 1) 0 0 M_X12_isLine 434 h 0 [some (.ref 420), some (.int x)] [] (fun sz' h' r => sz' = 434 ∧ h' = h ∧ r = [.int (inR x 0 (nI (c + m) - 1))]) := by
  refine r_iload_n rfl dX12_isLine_0 rfl ?_
  refine r_iconst (v := 0) rfl dX12_isLine_1 (by decide) ?_
  refine r_aload_n rfl dX12_isLine_2 rfl ?_
  refine r_getv 9 rfl dX12_isLine_3 (show 2 ≤ 420 ∧ 420 < 434 by decide) h5 fl_X12_112 rfl ?_
  refine r_aload_n rfl dX12_isLine_6 rfl ?_
  refine r_getv 10 rfl dX12_isLine_7 (show 2 ≤ 420 ∧ 420 < 434 by decide) h5 fl_X12_115 rfl ?_
  refine r_iadd rfl dX12_isLine_10 ?_
  refine r_eqi (y := nI (c + m)) (show (nI c) + (nI m) = nI (c + m) from nI_add c m) ?_
  refine r_iconst (v := 1) rfl dX12_isLine_11 (by decide) ?_
  refine r_isub rfl dX12_isLine_12 ?_
  refine cl_X12_60 rfl rfl dX12_isLine_13 (Nat.le_of_ble_eq_true rfl) s_X12_in ?_
  rintro _ h51 _ ⟨rfl, e52, rfl⟩
  replace e52 := e52.symm
  subst e52
  exact r_ret dX12_isLine_16 (rt_z rfl (inR_z _ _ _)) ⟨rfl, rfl, rfl⟩
set_option maxRecDepth 20000 in
set_option maxHeartbeats 1000000 in
theorem lp_X12_ending_2 {xs : Nat → Int32} {L d : Nat} {th : Int32} {tr : Int64} {ty nx tk pl va fa ss wg : Int32} {c m : Nat} {h : ev_H} (hS : SH h) (h5 : h 420 = c420 th tr ty nx tk pl va fa (nI c) (nI m) ss wg) (hc : c ≤ 16) (hm : m ≤ 24) : ∀ (n k : Nat), k + n = (c + m) → ∀  (hK : ∀ (kx : Int32) , EV xs L (d + 0) 0 0 M_X12_ending 434 h 49 [some (.ref 420), some (.int kx)] [] (fun sz' h' r => sz' = 434 ∧ h' = h ∧ (r = [.int (-9)] ∨ ∃ j : Nat, j < c + m ∧ r = [.int (nI j)]))), EV xs L (d + 0) 0 0 M_X12_ending 434 h 2 [some (.ref 420), some (.int (nI k))] [] (fun sz' h' r => sz' = 434 ∧ h' = h ∧ (r = [.int (-9)] ∨ ∃ j : Nat, j < c + m ∧ r = [.int (nI j)])) := by
  intro n
  induction n with
  | zero =>
    intro k hk  hK
    refine r_iload_n rfl dX12_ending_2 rfl ?_
    refine r_aload_n rfl dX12_ending_3 rfl ?_
    refine r_getv 9 rfl dX12_ending_4 (show 2 ≤ 420 ∧ 420 < 434 by decide) h5 fl_X12_112 rfl ?_
    refine r_aload_n rfl dX12_ending_7 rfl ?_
    refine r_getv 10 rfl dX12_ending_8 (show 2 ≤ 420 ∧ 420 < 434 by decide) h5 fl_X12_115 rfl ?_
    refine r_iadd rfl dX12_ending_11 ?_
    refine r_eqi (y := nI (c + m)) (show (nI c) + (nI m) = nI (c + m) from nI_add c m) ?_
    refine r_icmp_ge (tgt := 49) rfl rfl dX12_ending_12 (fun _ => ?_) (fun zc => absurd (show (nI (c + m)) ≤ nI k from nI_le (a := c + m) (b := k) (by omega) (by omega)) zc)
    exact hK (nI k) 
  | succ n ih =>
    intro k hk  hK
    refine r_iload_n rfl dX12_ending_2 rfl ?_
    refine r_aload_n rfl dX12_ending_3 rfl ?_
    refine r_getv 9 rfl dX12_ending_4 (show 2 ≤ 420 ∧ 420 < 434 by decide) h5 fl_X12_112 rfl ?_
    refine r_aload_n rfl dX12_ending_7 rfl ?_
    refine r_getv 10 rfl dX12_ending_8 (show 2 ≤ 420 ∧ 420 < 434 by decide) h5 fl_X12_115 rfl ?_
    refine r_iadd rfl dX12_ending_11 ?_
    refine r_eqi (y := nI (c + m)) (show (nI c) + (nI m) = nI (c + m) from nI_add c m) ?_
    refine r_icmp_ge (tgt := 49) rfl rfl dX12_ending_12 (fun zc => absurd zc (show ¬ (nI (c + m)) ≤ nI k from nI_ge (a := k) (b := c + m) (by omega) (by omega))) (fun _ => ?_)
    refine r_aload_n rfl dX12_ending_15 rfl ?_
    refine r_getv 13 rfl dX12_ending_16 (show 2 ≤ 420 ∧ 420 < 434 by decide) h5 fl_X12_17 rfl ?_
    refine r_bipush (v := 6) rfl dX12_ending_19 (by decide) ?_
    refine r_iload_n rfl dX12_ending_21 rfl ?_
    refine r_imul rfl dX12_ending_22 ?_
    refine r_eqi (y := nI (6 * k)) (show 6 * (nI k) = nI (6 * k) from pk_mul 6 k) ?_
    obtain ⟨g151, f152⟩ := hS.li LI_422
    refine r_ialdv (jn := 6 * k) (v := g151 (6 * k)) rfl dX12_ending_23 (show 2 ≤ 422 ∧ 422 < 434 by decide) f152 (vp_in_nI (n := 6 * k) (by omega) (by omega)) (nI_clamp (n := 6 * k) (by omega)) rfl ?_
    refine r_if_ne (tgt := 43) rfl rfl dX12_ending_24 (fun c153 => ?_) (fun c153 => ?_)
    · refine r_iinc (y := nI (k + 1)) (ls' := [some (.ref 420), some (.int (nI (k + 1)))]) rfl dX12_ending_43 rfl (nI_1 k) (Nat.le_of_ble_eq_true rfl) rfl ?_
      refine r_goto (pc' := 2) rfl dX12_ending_46 ?_
      exact ih (k + 1) (by omega)  hK
    · refine r_aload_n rfl dX12_ending_27 rfl ?_
      refine r_getv 13 rfl dX12_ending_28 (show 2 ≤ 420 ∧ 420 < 434 by decide) h5 fl_X12_17 rfl ?_
      refine r_bipush (v := 6) rfl dX12_ending_31 (by decide) ?_
      refine r_iload_n rfl dX12_ending_33 rfl ?_
      refine r_imul rfl dX12_ending_34 ?_
      refine r_eqi (y := nI (6 * k)) (show 6 * (nI k) = nI (6 * k) from pk_mul 6 k) ?_
      refine r_iconst (v := 1) rfl dX12_ending_35 (by decide) ?_
      refine r_iadd rfl dX12_ending_36 ?_
      refine r_eqi (y := nI ((6 * k) + 1)) (show (nI (6 * k)) + 1 = nI ((6 * k) + 1) from nI_add (6 * k) 1) ?_
      obtain ⟨g154, f155⟩ := hS.li LI_422
      refine r_ialdv (jn := (6 * k) + 1) (v := g154 ((6 * k) + 1)) rfl dX12_ending_37 (show 2 ≤ 422 ∧ 422 < 434 by decide) f155 (vp_in_nI (n := (6 * k) + 1) (by omega) (by omega)) (nI_clamp (n := (6 * k) + 1) (by omega)) rfl ?_
      refine r_if_ne (tgt := 43) rfl rfl dX12_ending_38 (fun c156 => ?_) (fun c156 => ?_)
      · refine r_iinc (y := nI (k + 1)) (ls' := [some (.ref 420), some (.int (nI (k + 1)))]) rfl dX12_ending_43 rfl (nI_1 k) (Nat.le_of_ble_eq_true rfl) rfl ?_
        refine r_goto (pc' := 2) rfl dX12_ending_46 ?_
        exact ih (k + 1) (by omega)  hK
      · refine r_iload_n rfl dX12_ending_41 rfl ?_
        exact r_ret dX12_ending_42 (rt_i rfl) ⟨rfl, rfl, Or.inr ⟨k, by omega, rfl⟩⟩
set_option maxRecDepth 20000 in
set_option maxHeartbeats 1000000 in
theorem s_X12_ending {xs : Nat → Int32} {L d : Nat} {h : ev_H} {th : Int32} {tr : Int64} {ty nx tk pl va fa ss wg : Int32} {c m : Nat} (hS : SH h) (h5 : h 420 = c420 th tr ty nx tk pl va fa (nI c) (nI m) ss wg) (hc : c ≤ 16) (hm : m ≤ 24) : EV xs L (d + 0) 0 0 M_X12_ending 434 h 0 [some (.ref 420), none] [] (fun sz' h' r => sz' = 434 ∧ h' = h ∧ (r = [.int (-9)] ∨ ∃ j : Nat, j < c + m ∧ r = [.int (nI j)])) := by
  refine r_iconst (v := 0) rfl dX12_ending_0 (by decide) ?_
  refine r_istore_n (ls' := [some (.ref 420), some (.int 0)]) rfl dX12_ending_1 (Nat.le_of_ble_eq_true rfl) rfl ?_
  refine lp_X12_ending_2 hS h5 hc hm (c + m - 0) 0 (by omega)  ?_
  intro kx51 
  refine r_bipush (v := (-9)) rfl dX12_ending_49 (by decide) ?_
  exact r_ret dX12_ending_51 (rt_i rfl) ⟨rfl, rfl, Or.inl rfl⟩
set_option maxRecDepth 20000 in
set_option maxHeartbeats 1000000 in
theorem lp_X12_clash_21 {xs : Nat → Int32} {L d : Nat} {th : Int32} {tr : Int64} {ty nx tk pl va fa ss wg : Int32} {c m : Nat} {x : Int32} {xf2 : Int32} {nf3 : Nat} {h : ev_H} (hS : SH h) (h5 : h 420 = c420 th tr ty nx tk pl va fa (nI c) (nI m) ss wg) (hc : c ≤ 16) (hm : m ≤ 24) (hnf3 : nf3 < 4) : ∀ (n ka : Nat), ka + n = c → ∀ (y4 : Int64) (hK : ∀ (kx : Int32) (y4 : Int64), EV xs L (d + 0) 0 0 M_X12_clash 434 h 68 [some (.ref 420), some (.int x), some (.int xf2), some (.int (nI nf3)), some (.long y4), none, some (.int kx)] [] (fun sz' h' r => sz' = 434 ∧ h' = h ∧ ∃ x : Int32, (x = 0 ∨ x = 1) ∧ r = [.int x])), EV xs L (d + 0) 0 0 M_X12_clash 434 h 21 [some (.ref 420), some (.int x), some (.int xf2), some (.int (nI nf3)), some (.long y4), none, some (.int (nI ka))] [] (fun sz' h' r => sz' = 434 ∧ h' = h ∧ ∃ x : Int32, (x = 0 ∨ x = 1) ∧ r = [.int x]) := by
  intro n
  induction n with
  | zero =>
    intro ka hk y4 hK
    refine r_iload rfl dX12_clash_21 rfl ?_
    refine r_aload_n rfl dX12_clash_23 rfl ?_
    refine r_getv 9 rfl dX12_clash_24 (show 2 ≤ 420 ∧ 420 < 434 by decide) h5 fl_X12_112 rfl ?_
    refine r_icmp_ge (tgt := 68) rfl rfl dX12_clash_27 (fun _ => ?_) (fun zc => absurd (show (nI c) ≤ nI ka from nI_le (a := c) (b := ka) (by omega) (by omega)) zc)
    exact hK (nI ka) y4
  | succ n ih =>
    intro ka hk y4 hK
    refine r_iload rfl dX12_clash_21 rfl ?_
    refine r_aload_n rfl dX12_clash_23 rfl ?_
    refine r_getv 9 rfl dX12_clash_24 (show 2 ≤ 420 ∧ 420 < 434 by decide) h5 fl_X12_112 rfl ?_
    refine r_icmp_ge (tgt := 68) rfl rfl dX12_clash_27 (fun zc => absurd zc (show ¬ (nI c) ≤ nI ka from nI_ge (a := ka) (b := c) (by omega) (by omega))) (fun _ => ?_)
    refine r_lload rfl dX12_clash_30 rfl ?_
    refine r_iload_n rfl dX12_clash_32 rfl ?_
    refine r_iload rfl dX12_clash_33 rfl ?_
    refine r_ishr rfl dX12_clash_35 ?_
    refine r_iconst (v := 1) rfl dX12_clash_36 (by decide) ?_
    refine r_iand rfl dX12_clash_37 ?_
    refine r_iconst (v := 1) rfl dX12_clash_38 (by decide) ?_
    have J252 : ∀ v253 : Int64, EV xs L (d + 0) 0 0 M_X12_clash 434 h 59 [some (.ref 420), some (.int x), some (.int xf2), some (.int (nI nf3)), some (.long y4), none, some (.int (nI ka))] (.long v253 :: .long y4 :: []) (fun sz' h' r => sz' = 434 ∧ h' = h ∧ ∃ x : Int32, (x = 0 ∨ x = 1) ∧ r = [.int x]) := by
      intro v253
      refine r_land rfl dX12_clash_59 ?_
      refine r_topl (fun x254 e255 => ?_)
      refine r_lstore (ls' := [some (.ref 420), some (.int x), some (.int xf2), some (.int (nI nf3)), some (.long x254), none, some (.int (nI ka))]) rfl dX12_clash_60 (Nat.le_of_ble_eq_true rfl) rfl ?_
      refine r_iinc (y := nI (ka + 1)) (ls' := [some (.ref 420), some (.int x), some (.int xf2), some (.int (nI nf3)), some (.long x254), none, some (.int (nI (ka + 1)))]) rfl dX12_clash_62 rfl (nI_1 ka) (Nat.le_of_ble_eq_true rfl) rfl ?_
      refine r_goto (pc' := 21) rfl dX12_clash_65 ?_
      exact ih (ka + 1) (by omega) x254 hK
    refine r_icmp_ne (tgt := 56) rfl rfl dX12_clash_39 (fun c256 => ?_) (fun c256 => ?_)
    · refine r_ldc2 (v := (-1)) rfl dX12_clash_56 lc_X12_137 ?_
      exact J252 _
    · refine r_aload_n rfl dX12_clash_42 rfl ?_
      refine r_getv 16 rfl dX12_clash_43 (show 2 ≤ 420 ∧ 420 < 434 by decide) h5 fl_X12_26 rfl ?_
      refine r_iconst (v := 4) rfl dX12_clash_46 (by decide) ?_
      refine r_iload rfl dX12_clash_47 rfl ?_
      refine r_imul rfl dX12_clash_49 ?_
      refine r_eqi (y := nI (4 * ka)) (show 4 * (nI ka) = nI (4 * ka) from pk_mul 4 ka) ?_
      refine r_iload_n rfl dX12_clash_50 rfl ?_
      refine r_iadd rfl dX12_clash_51 ?_
      refine r_eqi (y := nI ((4 * ka) + nf3)) (show (nI (4 * ka)) + (nI nf3) = nI ((4 * ka) + nf3) from nI_add (4 * ka) nf3) ?_
      obtain ⟨g257, f258⟩ := hS.la LA_425
      refine r_laldv (jn := (4 * ka) + nf3) (v := g257 ((4 * ka) + nf3)) rfl dX12_clash_52 (show 2 ≤ 425 ∧ 425 < 434 by decide) f258 (vp_in_nI (n := (4 * ka) + nf3) (by omega) (by omega)) (nI_clamp (n := (4 * ka) + nf3) (by omega)) rfl ?_
      refine r_goto (pc' := 59) rfl dX12_clash_53 ?_
      exact J252 _
set_option maxRecDepth 20000 in
set_option maxHeartbeats 1000000 in
theorem lp_X12_clash_4 {xs : Nat → Int32} {L d : Nat} {th : Int32} {tr : Int64} {ty nx tk pl va fa ss wg : Int32} {c m : Nat} {x : Int32} {h : ev_H} (hS : SH h) (h5 : h 420 = c420 th tr ty nx tk pl va fa (nI c) (nI m) ss wg) (hc : c ≤ 16) (hm : m ≤ 24) : ∀ (n k : Nat), k + n = 4 → ∀ (y2 : Int32) (y2z : y2 = 0 ∨ y2 = 1) (u4 : Option Value) (u4b : Option Value) (u6 : Option Value) (hK : ∀ (kx : Int32) (y2 : Int32) (y2z : y2 = 0 ∨ y2 = 1) (u4 : Option Value) (u4b : Option Value) (u6 : Option Value), EV xs L (d + 0) 0 0 M_X12_clash 434 h 87 [some (.ref 420), some (.int x), some (.int y2), some (.int kx), u4, u4b, u6] [] (fun sz' h' r => sz' = 434 ∧ h' = h ∧ ∃ x : Int32, (x = 0 ∨ x = 1) ∧ r = [.int x])), EV xs L (d + 0) 0 0 M_X12_clash 434 h 4 [some (.ref 420), some (.int x), some (.int y2), some (.int (nI k)), u4, u4b, u6] [] (fun sz' h' r => sz' = 434 ∧ h' = h ∧ ∃ x : Int32, (x = 0 ∨ x = 1) ∧ r = [.int x]) := by
  intro n
  induction n with
  | zero =>
    intro k hk y2 y2z u4 u4b u6 hK
    refine r_iload_n rfl dX12_clash_4 rfl ?_
    refine r_iconst (v := 4) rfl dX12_clash_5 (by decide) ?_
    refine r_icmp_ge (tgt := 87) rfl rfl dX12_clash_6 (fun _ => ?_) (fun zc => absurd (show 4 ≤ nI k from nI_le (a := 4) (b := k) (by omega) (by omega)) zc)
    exact hK (nI k) y2 y2z u4 u4b u6
  | succ n ih =>
    intro k hk y2 y2z u4 u4b u6 hK
    refine r_iload_n rfl dX12_clash_4 rfl ?_
    refine r_iconst (v := 4) rfl dX12_clash_5 (by decide) ?_
    refine r_icmp_ge (tgt := 87) rfl rfl dX12_clash_6 (fun zc => absurd zc (show ¬ 4 ≤ nI k from nI_ge (a := k) (b := 4) (by omega) (by omega))) (fun _ => ?_)
    refine r_iload_n rfl dX12_clash_9 rfl ?_
    refine r_if_eq (tgt := 87) rfl rfl dX12_clash_10 (fun c151 => ?_) (fun c151 => ?_)
    · exact hK (nI k) y2 y2z u4 u4b u6
    · refine r_ldc2 (v := (-1)) rfl dX12_clash_13 lc_X12_137 ?_
      refine r_lstore (ls' := [some (.ref 420), some (.int x), some (.int y2), some (.int (nI k)), some (.long (-1)), none, u6]) rfl dX12_clash_16 (Nat.le_of_ble_eq_true rfl) rfl ?_
      refine r_iconst (v := 0) rfl dX12_clash_18 (by decide) ?_
      refine r_istore (ls' := [some (.ref 420), some (.int x), some (.int y2), some (.int (nI k)), some (.long (-1)), none, some (.int 0)]) rfl dX12_clash_19 (Nat.le_of_ble_eq_true rfl) rfl ?_
      refine lp_X12_clash_21 hS h5 hc hm (by omega) (c - 0) 0 (by omega) (-1) ?_
      intro kx152 w153
      refine r_lload rfl dX12_clash_68 rfl ?_
      refine r_lconst (v := 0) rfl dX12_clash_70 (by decide) ?_
      refine r_lcmp rfl dX12_clash_71 ?_
      have J154 : ∀ v155 : Int32, (v155 = 0 ∨ v155 = 1) → EV xs L (d + 0) 0 0 M_X12_clash 434 h 80 [some (.ref 420), some (.int x), some (.int y2), some (.int (nI k)), some (.long w153), none, some (.int kx152)] (.int v155 :: []) (fun sz' h' r => sz' = 434 ∧ h' = h ∧ ∃ x : Int32, (x = 0 ∨ x = 1) ∧ r = [.int x]) := by
        intro v155 v155z
        refine r_istore_n (ls' := [some (.ref 420), some (.int x), some (.int v155), some (.int (nI k)), some (.long w153), none, some (.int kx152)]) rfl dX12_clash_80 (Nat.le_of_ble_eq_true rfl) rfl ?_
        refine r_iinc (y := nI (k + 1)) (ls' := [some (.ref 420), some (.int x), some (.int v155), some (.int (nI (k + 1))), some (.long w153), none, some (.int kx152)]) rfl dX12_clash_81 rfl (nI_1 k) (Nat.le_of_ble_eq_true rfl) rfl ?_
        refine r_goto (pc' := 4) rfl dX12_clash_84 ?_
        exact ih (k + 1) (by omega) v155 v155z (some (.long w153)) none (some (.int kx152)) hK
      refine r_if_ne (tgt := 79) rfl rfl dX12_clash_72 (fun c156 => ?_) (fun c156 => ?_)
      · refine r_iconst (v := 0) rfl dX12_clash_79 (by decide) ?_
        exact J154 _ (Or.inl rfl)
      · refine r_iconst (v := 1) rfl dX12_clash_75 (by decide) ?_
        refine r_goto (pc' := 80) rfl dX12_clash_76 ?_
        exact J154 _ (Or.inr rfl)
set_option maxRecDepth 20000 in
set_option maxHeartbeats 1000000 in
theorem s_X12_clash {xs : Nat → Int32} {L d : Nat} {h : ev_H} {th : Int32} {tr : Int64} {ty nx tk pl va fa ss wg : Int32} {c m : Nat} {x : Int32} (hS : SH h) (h5 : h 420 = c420 th tr ty nx tk pl va fa (nI c) (nI m) ss wg) (hc : c ≤ 16) (hm : m ≤ 24) : EV xs L (d + 0) 0 0 M_X12_clash 434 h 0 [some (.ref 420), some (.int x), none, none, none, none, none] [] (fun sz' h' r => sz' = 434 ∧ h' = h ∧ ∃ x : Int32, (x = 0 ∨ x = 1) ∧ r = [.int x]) := by
  refine r_iconst (v := 1) rfl dX12_clash_0 (by decide) ?_
  refine r_istore_n (ls' := [some (.ref 420), some (.int x), some (.int 1), none, none, none, none]) rfl dX12_clash_1 (Nat.le_of_ble_eq_true rfl) rfl ?_
  refine r_iconst (v := 0) rfl dX12_clash_2 (by decide) ?_
  refine r_istore_n (ls' := [some (.ref 420), some (.int x), some (.int 1), some (.int 0), none, none, none]) rfl dX12_clash_3 (Nat.le_of_ble_eq_true rfl) rfl ?_
  refine lp_X12_clash_4 hS h5 hc hm (4 - 0) 0 (by omega) 1 (Or.inr rfl) none none none ?_
  intro kx51 w52 w52z w53 w54 w55
  refine r_iload_n rfl dX12_clash_87 rfl ?_
  exact r_ret dX12_clash_88 (rt_z rfl w52z) ⟨rfl, rfl, ⟨_, w52z, rfl⟩⟩
set_option maxRecDepth 20000 in
set_option maxHeartbeats 1000000 in
theorem lp_X12_checks_20 {xs : Nat → Int32} {L d : Nat} {th : Int32} {tr : Int64} {ty nx tk pl va fa ss wg : Int32} {c m : Nat} {a : Nat} {h : ev_H} (hS : SH h) (h5 : h 420 = c420 th tr ty nx tk pl va fa (nI c) (nI m) ss wg) (hc : c ≤ 16) (hm : m ≤ 24) (ha : LA a 4) : ∀ (n : Nat) (kx : Int32), kx = nI (0 + n) - 1 → 0 + n ≤ 4 → ∀ (y2 : Int32) (hK : ∀ (kx : Int32) (y2 : Int32), EV xs L (d + 2) 0 0 M_X12_checks 434 h 81 [some (.ref 420), some (.ref a), some (.int y2), some (.int kx)] [] (fun sz' h' r => sz' = 434 ∧ h' = h ∧ ∃ x : Int32, r = [.int x])), EV xs L (d + 2) 0 0 M_X12_checks 434 h 20 [some (.ref 420), some (.ref a), some (.int y2), some (.int kx)] [] (fun sz' h' r => sz' = 434 ∧ h' = h ∧ ∃ x : Int32, r = [.int x]) := by
  intro n
  induction n with
  | zero =>
    intro kx hk hub y2 hK
    replace hk : kx = nI 0 - 1 := hk
    refine r_iload_n rfl dX12_checks_20 rfl ?_
    refine r_if_lt (tgt := 81) rfl rfl dX12_checks_21 (fun _ => ?_) (fun zc => absurd (show kx < 0 from by rw [hk]; exact nI_pm (by omega)) zc)
    exact hK kx y2
  | succ n ih =>
    intro kx hk hub y2 hK
    obtain rfl : kx = nI (0 + n) := by rw [hk, show 0 + (n + 1) = 0 + n + 1 by omega]; exact nI_pred (0 + n)
    refine r_iload_n rfl dX12_checks_20 rfl ?_
    refine r_if_lt (tgt := 81) rfl rfl dX12_checks_21 (fun zc => absurd zc (show ¬ nI (0 + n) < 0 from nI_nlt (a := 0 + n) (b := 0) (by omega) (by omega))) (fun _ => ?_)
    refine r_aload_n rfl dX12_checks_24 rfl ?_
    refine r_iload_n rfl dX12_checks_25 rfl ?_
    obtain ⟨g158, f159⟩ := hS.la ha
    refine r_laldv (jn := 0 + n) (v := g158 (0 + n)) rfl dX12_checks_26 ha.1 f159 (vp_in_nI (n := 0 + n) (by omega) (by omega)) (nI_clamp (n := 0 + n) (by omega)) rfl ?_
    refine r_aload_n rfl dX12_checks_27 rfl ?_
    refine r_getv 19 rfl dX12_checks_28 (show 2 ≤ 420 ∧ 420 < 434 by decide) h5 fl_X12_36 rfl ?_
    refine r_iload_n rfl dX12_checks_31 rfl ?_
    obtain ⟨g160, f161⟩ := hS.la LA_428
    refine r_laldv (jn := 0 + n) (v := g160 (0 + n)) rfl dX12_checks_32 (show 2 ≤ 428 ∧ 428 < 434 by decide) f161 (vp_in_nI (n := 0 + n) (by omega) (by omega)) (nI_clamp (n := 0 + n) (by omega)) rfl ?_
    refine r_land rfl dX12_checks_33 ?_
    refine r_lconst (v := 0) rfl dX12_checks_34 (by decide) ?_
    refine r_lcmp rfl dX12_checks_35 ?_
    have J162 : ∀ v163 : Int32, EV xs L (d + 2) 0 0 M_X12_checks 434 h 49 [some (.ref 420), some (.ref a), some (.int y2), some (.int (nI (0 + n)))] (.int v163 :: []) (fun sz' h' r => sz' = 434 ∧ h' = h ∧ ∃ x : Int32, r = [.int x]) := by
      intro v163
      refine r_istore_n (ls' := [some (.ref 420), some (.ref a), some (.int v163), some (.int (nI (0 + n)))]) rfl dX12_checks_49 (Nat.le_of_ble_eq_true rfl) rfl ?_
      refine r_aload_n rfl dX12_checks_50 rfl ?_
      refine r_getv 18 rfl dX12_checks_51 (show 2 ≤ 420 ∧ 420 < 434 by decide) h5 fl_X12_33 rfl ?_
      refine r_iload_n rfl dX12_checks_54 rfl ?_
      obtain ⟨g164, f165⟩ := hS.la LA_427
      refine r_laldv (jn := 0 + n) (v := g164 (0 + n)) rfl dX12_checks_55 (show 2 ≤ 427 ∧ 427 < 434 by decide) f165 (vp_in_nI (n := 0 + n) (by omega) (by omega)) (nI_clamp (n := 0 + n) (by omega)) rfl ?_
      refine r_aload_n rfl dX12_checks_56 rfl ?_
      refine r_iload_n rfl dX12_checks_57 rfl ?_
      obtain ⟨g166, f167⟩ := hS.la ha
      refine r_laldv (jn := 0 + n) (v := g166 (0 + n)) rfl dX12_checks_58 ha.1 f167 (vp_in_nI (n := 0 + n) (by omega) (by omega)) (nI_clamp (n := 0 + n) (by omega)) rfl ?_
      refine r_ldc2 (v := (-1)) rfl dX12_checks_59 lc_X12_137 ?_
      refine r_lxor rfl dX12_checks_62 ?_
      refine r_land rfl dX12_checks_63 ?_
      refine r_lconst (v := 0) rfl dX12_checks_64 (by decide) ?_
      refine r_lcmp rfl dX12_checks_65 ?_
      have J168 : ∀ v169 : Int32, EV xs L (d + 2) 0 0 M_X12_checks 434 h 74 [some (.ref 420), some (.ref a), some (.int v163), some (.int (nI (0 + n)))] (.int v169 :: []) (fun sz' h' r => sz' = 434 ∧ h' = h ∧ ∃ x : Int32, r = [.int x]) := by
        intro v169
        refine r_istore_n (ls' := [some (.ref 420), some (.ref a), some (.int v169), some (.int (nI (0 + n)))]) rfl dX12_checks_74 (Nat.le_of_ble_eq_true rfl) rfl ?_
        obtain ⟨x170, e171⟩ : ∃ z : Int32, z = (nI (0 + n)) + Int32.ofInt (-1) := ⟨_, rfl⟩
        refine r_iinc (y := x170) (ls' := [some (.ref 420), some (.ref a), some (.int v169), some (.int x170)]) rfl dX12_checks_75 rfl e171.symm (Nat.le_of_ble_eq_true rfl) rfl ?_
        refine r_goto (pc' := 20) rfl dX12_checks_78 ?_
        exact ih x170 (by rw [e171, Int32.sub_eq_add_neg]; rfl) (by omega) v169 hK
      refine r_if_eq (tgt := 73) rfl rfl dX12_checks_66 (fun c172 => ?_) (fun c172 => ?_)
      · refine r_iload_n rfl dX12_checks_73 rfl ?_
        exact J168 _
      · refine r_iconst (v := 2) rfl dX12_checks_69 (by decide) ?_
        refine r_goto (pc' := 74) rfl dX12_checks_70 ?_
        exact J168 _
    refine r_if_eq (tgt := 48) rfl rfl dX12_checks_36 (fun c173 => ?_) (fun c173 => ?_)
    · refine r_iload_n rfl dX12_checks_48 rfl ?_
      exact J162 _
    · refine r_iload_n rfl dX12_checks_39 rfl ?_
      refine r_iconst (v := 2) rfl dX12_checks_40 (by decide) ?_
      refine r_icmp_eq (tgt := 48) rfl rfl dX12_checks_41 (fun c174 => ?_) (fun c174 => ?_)
      · refine r_iload_n rfl dX12_checks_48 rfl ?_
        exact J162 _
      · refine r_iconst (v := 3) rfl dX12_checks_44 (by decide) ?_
        refine r_goto (pc' := 49) rfl dX12_checks_45 ?_
        exact J162 _
set_option maxRecDepth 20000 in
set_option maxHeartbeats 1000000 in
theorem s_X12_checks {xs : Nat → Int32} {L d : Nat} {h : ev_H} {th : Int32} {tr : Int64} {ty nx tk pl va fa ss wg : Int32} {c m : Nat} {a : Nat} (hS : SH h) (h5 : h 420 = c420 th tr ty nx tk pl va fa (nI c) (nI m) ss wg) (hc : c ≤ 16) (hm : m ≤ 24) (ha : LA a 4) : EV xs L (d + 2) 0 0 M_X12_checks 434 h 0 [some (.ref 420), some (.ref a), none, none] [] (fun sz' h' r => sz' = 434 ∧ h' = h ∧ ∃ x : Int32, r = [.int x]) := by
  refine r_aload_n rfl dX12_checks_0 rfl ?_
  refine cl_X12_167 rfl rfl dX12_checks_1 (Nat.le_of_ble_eq_true rfl) (s_X12_looksOf hS ha) ?_
  rintro _ h51 _ ⟨rfl, e52, x53, rfl⟩
  replace e52 := e52.symm
  subst e52
  refine r_aload_n rfl dX12_checks_4 rfl ?_
  refine cl_X12_133 rfl rfl dX12_checks_5 (show 2 ≤ 420 ∧ 420 < 434 by decide).1 (show 2 ≤ 420 ∧ 420 < 434 by decide).2 h5 (Nat.le_of_ble_eq_true rfl) (s_X12_shared hS h5 hc hm) ?_
  rintro _ h54 _ ⟨rfl, e55, x56, rfl⟩
  replace e55 := e55.symm
  subst e55
  refine r_iconst (v := (-1)) rfl dX12_checks_8 (by decide) ?_
  refine r_ixor rfl dX12_checks_9 ?_
  refine r_iand rfl dX12_checks_10 ?_
  refine r_if_eq (tgt := 16) rfl rfl dX12_checks_11 (fun c57 => ?_) (fun c57 => ?_)
  · refine r_iconst (v := 0) rfl dX12_checks_16 (by decide) ?_
    refine r_istore_n (ls' := [some (.ref 420), some (.ref a), some (.int 0), none]) rfl dX12_checks_17 (Nat.le_of_ble_eq_true rfl) rfl ?_
    refine r_iconst (v := 3) rfl dX12_checks_18 (by decide) ?_
    refine r_istore_n (ls' := [some (.ref 420), some (.ref a), some (.int 0), some (.int 3)]) rfl dX12_checks_19 (Nat.le_of_ble_eq_true rfl) rfl ?_
    refine lp_X12_checks_20 hS h5 hc hm ha (3 + 1 - 0) 3 (by rw [show 0 + (3 + 1 - 0) = 3 + 1 by omega]; exact (nI_pred 3).symm) (by omega) 0 ?_
    intro kx58 w59
    refine r_iload_n rfl dX12_checks_81 rfl ?_
    exact r_ret dX12_checks_82 (rt_i rfl) ⟨rfl, rfl, ⟨_, rfl⟩⟩
  · refine r_iconst (v := 1) rfl dX12_checks_14 (by decide) ?_
    exact r_ret dX12_checks_15 (rt_i rfl) ⟨rfl, rfl, ⟨_, rfl⟩⟩
