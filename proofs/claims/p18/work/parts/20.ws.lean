theorem dJ13_bitCount_95d88_0 : decode cJ13_bitCount_95d88 0 = .ok (.lload_n 0, 1) := by decide +kernel
theorem dJ13_bitCount_95d88_1 : decode cJ13_bitCount_95d88 1 = .ok (.lload_n 0, 1) := by decide +kernel
theorem dJ13_bitCount_95d88_2 : decode cJ13_bitCount_95d88 2 = .ok (.iconst 1, 1) := by decide +kernel
theorem dJ13_bitCount_95d88_3 : decode cJ13_bitCount_95d88 3 = .ok (.lushr, 1) := by decide +kernel
theorem dJ13_bitCount_95d88_4 : decode cJ13_bitCount_95d88 4 = .ok (.ldc2_w 314, 3) := by decide +kernel
theorem dJ13_bitCount_95d88_7 : decode cJ13_bitCount_95d88 7 = .ok (.land, 1) := by decide +kernel
theorem dJ13_bitCount_95d88_8 : decode cJ13_bitCount_95d88 8 = .ok (.lsub, 1) := by decide +kernel
theorem dJ13_bitCount_95d88_9 : decode cJ13_bitCount_95d88 9 = .ok (.lstore_n 0, 1) := by decide +kernel
theorem dJ13_bitCount_95d88_10 : decode cJ13_bitCount_95d88 10 = .ok (.lload_n 0, 1) := by decide +kernel
theorem dJ13_bitCount_95d88_11 : decode cJ13_bitCount_95d88 11 = .ok (.ldc2_w 316, 3) := by decide +kernel
theorem dJ13_bitCount_95d88_14 : decode cJ13_bitCount_95d88 14 = .ok (.land, 1) := by decide +kernel
theorem dJ13_bitCount_95d88_15 : decode cJ13_bitCount_95d88 15 = .ok (.lload_n 0, 1) := by decide +kernel
theorem dJ13_bitCount_95d88_16 : decode cJ13_bitCount_95d88 16 = .ok (.iconst 2, 1) := by decide +kernel
theorem dJ13_bitCount_95d88_17 : decode cJ13_bitCount_95d88 17 = .ok (.lushr, 1) := by decide +kernel
theorem dJ13_bitCount_95d88_18 : decode cJ13_bitCount_95d88 18 = .ok (.ldc2_w 316, 3) := by decide +kernel
theorem dJ13_bitCount_95d88_21 : decode cJ13_bitCount_95d88 21 = .ok (.land, 1) := by decide +kernel
theorem dJ13_bitCount_95d88_22 : decode cJ13_bitCount_95d88 22 = .ok (.ladd, 1) := by decide +kernel
theorem dJ13_bitCount_95d88_23 : decode cJ13_bitCount_95d88 23 = .ok (.lstore_n 0, 1) := by decide +kernel
theorem dJ13_bitCount_95d88_24 : decode cJ13_bitCount_95d88 24 = .ok (.lload_n 0, 1) := by decide +kernel
theorem dJ13_bitCount_95d88_25 : decode cJ13_bitCount_95d88 25 = .ok (.lload_n 0, 1) := by decide +kernel
theorem dJ13_bitCount_95d88_26 : decode cJ13_bitCount_95d88 26 = .ok (.iconst 4, 1) := by decide +kernel
theorem dJ13_bitCount_95d88_27 : decode cJ13_bitCount_95d88 27 = .ok (.lushr, 1) := by decide +kernel
theorem dJ13_bitCount_95d88_28 : decode cJ13_bitCount_95d88 28 = .ok (.ladd, 1) := by decide +kernel
theorem dJ13_bitCount_95d88_29 : decode cJ13_bitCount_95d88 29 = .ok (.ldc2_w 318, 3) := by decide +kernel
theorem dJ13_bitCount_95d88_32 : decode cJ13_bitCount_95d88 32 = .ok (.land, 1) := by decide +kernel
theorem dJ13_bitCount_95d88_33 : decode cJ13_bitCount_95d88 33 = .ok (.lstore_n 0, 1) := by decide +kernel
theorem dJ13_bitCount_95d88_34 : decode cJ13_bitCount_95d88 34 = .ok (.lload_n 0, 1) := by decide +kernel
theorem dJ13_bitCount_95d88_35 : decode cJ13_bitCount_95d88 35 = .ok (.lload_n 0, 1) := by decide +kernel
theorem dJ13_bitCount_95d88_36 : decode cJ13_bitCount_95d88 36 = .ok (.bipush 8, 2) := by decide +kernel
theorem dJ13_bitCount_95d88_38 : decode cJ13_bitCount_95d88 38 = .ok (.lushr, 1) := by decide +kernel
theorem dJ13_bitCount_95d88_39 : decode cJ13_bitCount_95d88 39 = .ok (.ladd, 1) := by decide +kernel
theorem dJ13_bitCount_95d88_40 : decode cJ13_bitCount_95d88 40 = .ok (.lstore_n 0, 1) := by decide +kernel
theorem dJ13_bitCount_95d88_41 : decode cJ13_bitCount_95d88 41 = .ok (.lload_n 0, 1) := by decide +kernel
theorem dJ13_bitCount_95d88_42 : decode cJ13_bitCount_95d88 42 = .ok (.lload_n 0, 1) := by decide +kernel
theorem dJ13_bitCount_95d88_43 : decode cJ13_bitCount_95d88 43 = .ok (.bipush 16, 2) := by decide +kernel
theorem dJ13_bitCount_95d88_45 : decode cJ13_bitCount_95d88 45 = .ok (.lushr, 1) := by decide +kernel
theorem dJ13_bitCount_95d88_46 : decode cJ13_bitCount_95d88 46 = .ok (.ladd, 1) := by decide +kernel
theorem dJ13_bitCount_95d88_47 : decode cJ13_bitCount_95d88 47 = .ok (.lstore_n 0, 1) := by decide +kernel
theorem dJ13_bitCount_95d88_48 : decode cJ13_bitCount_95d88 48 = .ok (.lload_n 0, 1) := by decide +kernel
theorem dJ13_bitCount_95d88_49 : decode cJ13_bitCount_95d88 49 = .ok (.lload_n 0, 1) := by decide +kernel
theorem dJ13_bitCount_95d88_50 : decode cJ13_bitCount_95d88 50 = .ok (.bipush 32, 2) := by decide +kernel
theorem dJ13_bitCount_95d88_52 : decode cJ13_bitCount_95d88 52 = .ok (.lushr, 1) := by decide +kernel
theorem dJ13_bitCount_95d88_53 : decode cJ13_bitCount_95d88 53 = .ok (.ladd, 1) := by decide +kernel
theorem dJ13_bitCount_95d88_54 : decode cJ13_bitCount_95d88 54 = .ok (.lstore_n 0, 1) := by decide +kernel
theorem dJ13_bitCount_95d88_55 : decode cJ13_bitCount_95d88 55 = .ok (.lload_n 0, 1) := by decide +kernel
theorem dJ13_bitCount_95d88_56 : decode cJ13_bitCount_95d88 56 = .ok (.l2i, 1) := by decide +kernel
theorem dJ13_bitCount_95d88_57 : decode cJ13_bitCount_95d88 57 = .ok (.bipush 127, 2) := by decide +kernel
theorem dJ13_bitCount_95d88_59 : decode cJ13_bitCount_95d88 59 = .ok (.iand, 1) := by decide +kernel
theorem dJ13_bitCount_95d88_60 : decode cJ13_bitCount_95d88 60 = .ok (.ireturn, 1) := by decide +kernel
theorem dX10_wipe_0 : decode cX10_wipe 0 = .ok (.iconst 0, 1) := by decide +kernel
theorem dX10_wipe_1 : decode cX10_wipe 1 = .ok (.istore_n 1, 1) := by decide +kernel
theorem dX10_wipe_2 : decode cX10_wipe 2 = .ok (.iload_n 1, 1) := by decide +kernel
theorem dX10_wipe_3 : decode cX10_wipe 3 = .ok (.iconst 4, 1) := by decide +kernel
theorem dX10_wipe_4 : decode cX10_wipe 4 = .ok (.if_icmp .ge 16, 3) := by decide +kernel
theorem dX10_wipe_7 : decode cX10_wipe 7 = .ok (.aload_n 0, 1) := by decide +kernel
theorem dX10_wipe_8 : decode cX10_wipe 8 = .ok (.getfield 9, 3) := by decide +kernel
theorem dX10_wipe_11 : decode cX10_wipe 11 = .ok (.iload_n 1, 1) := by decide +kernel
theorem dX10_wipe_12 : decode cX10_wipe 12 = .ok (.lconst 0, 1) := by decide +kernel
theorem dX10_wipe_13 : decode cX10_wipe 13 = .ok (.lastore, 1) := by decide +kernel
theorem dX10_wipe_14 : decode cX10_wipe 14 = .ok (.iinc 1 1, 3) := by decide +kernel
theorem dX10_wipe_17 : decode cX10_wipe 17 = .ok (.goto (-15), 3) := by decide +kernel
theorem dX10_wipe_20 : decode cX10_wipe 20 = .ok (.return_, 1) := by decide +kernel
theorem dX10_turn_0 : decode cX10_turn 0 = .ok (.iconst 0, 1) := by decide +kernel
theorem dX10_turn_1 : decode cX10_turn 1 = .ok (.istore_n 1, 1) := by decide +kernel
theorem dX10_turn_2 : decode cX10_turn 2 = .ok (.iload_n 1, 1) := by decide +kernel
theorem dX10_turn_3 : decode cX10_turn 3 = .ok (.iconst 4, 1) := by decide +kernel
theorem dX10_turn_4 : decode cX10_turn 4 = .ok (.if_icmp .ge 25, 3) := by decide +kernel
theorem dX10_turn_7 : decode cX10_turn 7 = .ok (.aload_n 0, 1) := by decide +kernel
theorem dX10_turn_8 : decode cX10_turn 8 = .ok (.getfield 9, 3) := by decide +kernel
theorem dX10_turn_11 : decode cX10_turn 11 = .ok (.iload_n 1, 1) := by decide +kernel
theorem dX10_turn_12 : decode cX10_turn 12 = .ok (.aload_n 0, 1) := by decide +kernel
theorem dX10_turn_13 : decode cX10_turn 13 = .ok (.getfield 9, 3) := by decide +kernel
theorem dX10_turn_16 : decode cX10_turn 16 = .ok (.iload_n 1, 1) := by decide +kernel
theorem dX10_turn_17 : decode cX10_turn 17 = .ok (.laload, 1) := by decide +kernel
theorem dX10_turn_18 : decode cX10_turn 18 = .ok (.ldc2_w 18, 3) := by decide +kernel
theorem dX10_turn_21 : decode cX10_turn 21 = .ok (.lxor, 1) := by decide +kernel
theorem dX10_turn_22 : decode cX10_turn 22 = .ok (.lastore, 1) := by decide +kernel
theorem dX10_turn_23 : decode cX10_turn 23 = .ok (.iinc 1 1, 3) := by decide +kernel
theorem dX10_turn_26 : decode cX10_turn 26 = .ok (.goto (-24), 3) := by decide +kernel
theorem dX10_turn_29 : decode cX10_turn 29 = .ok (.return_, 1) := by decide +kernel
theorem dX10_fill_0 : decode cX10_fill 0 = .ok (.aload_n 0, 1) := by decide +kernel
theorem dX10_fill_1 : decode cX10_fill 1 = .ok (.invokevirtual 38, 3) := by decide +kernel
theorem dX10_fill_4 : decode cX10_fill 4 = .ok (.aload_n 0, 1) := by decide +kernel
theorem dX10_fill_5 : decode cX10_fill 5 = .ok (.invokevirtual 41, 3) := by decide +kernel
theorem dX10_fill_8 : decode cX10_fill 8 = .ok (.return_, 1) := by decide +kernel
theorem dX10_become_0 : decode cX10_become 0 = .ok (.iconst 0, 1) := by decide +kernel
theorem dX10_become_1 : decode cX10_become 1 = .ok (.istore_n 2, 1) := by decide +kernel
theorem dX10_become_2 : decode cX10_become 2 = .ok (.iload_n 2, 1) := by decide +kernel
theorem dX10_become_3 : decode cX10_become 3 = .ok (.iconst 4, 1) := by decide +kernel
theorem dX10_become_4 : decode cX10_become 4 = .ok (.if_icmp .ge 21, 3) := by decide +kernel
theorem dX10_become_7 : decode cX10_become 7 = .ok (.aload_n 0, 1) := by decide +kernel
theorem dX10_become_8 : decode cX10_become 8 = .ok (.getfield 9, 3) := by decide +kernel
theorem dX10_become_11 : decode cX10_become 11 = .ok (.iload_n 2, 1) := by decide +kernel
theorem dX10_become_12 : decode cX10_become 12 = .ok (.aload_n 1, 1) := by decide +kernel
theorem dX10_become_13 : decode cX10_become 13 = .ok (.getfield 9, 3) := by decide +kernel
theorem dX10_become_16 : decode cX10_become 16 = .ok (.iload_n 2, 1) := by decide +kernel
theorem dX10_become_17 : decode cX10_become 17 = .ok (.laload, 1) := by decide +kernel
theorem dX10_become_18 : decode cX10_become 18 = .ok (.lastore, 1) := by decide +kernel
theorem dX10_become_19 : decode cX10_become 19 = .ok (.iinc 2 1, 3) := by decide +kernel
theorem dX10_become_22 : decode cX10_become 22 = .ok (.goto (-20), 3) := by decide +kernel
theorem dX10_become_25 : decode cX10_become 25 = .ok (.return_, 1) := by decide +kernel
theorem dX10_join_0 : decode cX10_join 0 = .ok (.iconst 0, 1) := by decide +kernel
theorem dX10_join_1 : decode cX10_join 1 = .ok (.istore_n 2, 1) := by decide +kernel
theorem dX10_join_2 : decode cX10_join 2 = .ok (.iload_n 2, 1) := by decide +kernel
theorem dX10_join_3 : decode cX10_join 3 = .ok (.iconst 4, 1) := by decide +kernel
theorem dX10_join_4 : decode cX10_join 4 = .ok (.if_icmp .ge 24, 3) := by decide +kernel
theorem dX10_join_7 : decode cX10_join 7 = .ok (.aload_n 0, 1) := by decide +kernel
theorem dX10_join_8 : decode cX10_join 8 = .ok (.getfield 9, 3) := by decide +kernel
theorem dX10_join_11 : decode cX10_join 11 = .ok (.iload_n 2, 1) := by decide +kernel
theorem dX10_join_12 : decode cX10_join 12 = .ok (.dup2, 1) := by decide +kernel
theorem dX10_join_13 : decode cX10_join 13 = .ok (.laload, 1) := by decide +kernel
theorem dX10_join_14 : decode cX10_join 14 = .ok (.aload_n 1, 1) := by decide +kernel
theorem dX10_join_15 : decode cX10_join 15 = .ok (.getfield 9, 3) := by decide +kernel
theorem dX10_join_18 : decode cX10_join 18 = .ok (.iload_n 2, 1) := by decide +kernel
theorem dX10_join_19 : decode cX10_join 19 = .ok (.laload, 1) := by decide +kernel
theorem dX10_join_20 : decode cX10_join 20 = .ok (.lor, 1) := by decide +kernel
theorem dX10_join_21 : decode cX10_join 21 = .ok (.lastore, 1) := by decide +kernel
theorem dX10_join_22 : decode cX10_join 22 = .ok (.iinc 2 1, 3) := by decide +kernel
theorem dX10_join_25 : decode cX10_join 25 = .ok (.goto (-23), 3) := by decide +kernel
theorem dX10_join_28 : decode cX10_join 28 = .ok (.return_, 1) := by decide +kernel
theorem dX10_meet_0 : decode cX10_meet 0 = .ok (.iconst 0, 1) := by decide +kernel
theorem dX10_meet_1 : decode cX10_meet 1 = .ok (.istore_n 2, 1) := by decide +kernel
theorem dX10_meet_2 : decode cX10_meet 2 = .ok (.iload_n 2, 1) := by decide +kernel
theorem dX10_meet_3 : decode cX10_meet 3 = .ok (.iconst 4, 1) := by decide +kernel
theorem dX10_meet_4 : decode cX10_meet 4 = .ok (.if_icmp .ge 24, 3) := by decide +kernel
theorem dX10_meet_7 : decode cX10_meet 7 = .ok (.aload_n 0, 1) := by decide +kernel
theorem dX10_meet_8 : decode cX10_meet 8 = .ok (.getfield 9, 3) := by decide +kernel
theorem dX10_meet_11 : decode cX10_meet 11 = .ok (.iload_n 2, 1) := by decide +kernel
theorem dX10_meet_12 : decode cX10_meet 12 = .ok (.dup2, 1) := by decide +kernel
theorem dX10_meet_13 : decode cX10_meet 13 = .ok (.laload, 1) := by decide +kernel
theorem dX10_meet_14 : decode cX10_meet 14 = .ok (.aload_n 1, 1) := by decide +kernel
theorem dX10_meet_15 : decode cX10_meet 15 = .ok (.getfield 9, 3) := by decide +kernel
theorem dX10_meet_18 : decode cX10_meet 18 = .ok (.iload_n 2, 1) := by decide +kernel
theorem dX10_meet_19 : decode cX10_meet 19 = .ok (.laload, 1) := by decide +kernel
theorem dX10_meet_20 : decode cX10_meet 20 = .ok (.land, 1) := by decide +kernel
theorem dX10_meet_21 : decode cX10_meet 21 = .ok (.lastore, 1) := by decide +kernel
theorem dX10_meet_22 : decode cX10_meet 22 = .ok (.iinc 2 1, 3) := by decide +kernel
theorem dX10_meet_25 : decode cX10_meet 25 = .ok (.goto (-23), 3) := by decide +kernel
theorem dX10_meet_28 : decode cX10_meet 28 = .ok (.return_, 1) := by decide +kernel
theorem dX10_size_0 : decode cX10_size 0 = .ok (.iconst 0, 1) := by decide +kernel
theorem dX10_size_1 : decode cX10_size 1 = .ok (.istore_n 1, 1) := by decide +kernel
theorem dX10_size_2 : decode cX10_size 2 = .ok (.iconst 0, 1) := by decide +kernel
theorem dX10_size_3 : decode cX10_size 3 = .ok (.istore_n 2, 1) := by decide +kernel
theorem dX10_size_4 : decode cX10_size 4 = .ok (.iload_n 2, 1) := by decide +kernel
theorem dX10_size_5 : decode cX10_size 5 = .ok (.iconst 4, 1) := by decide +kernel
theorem dX10_size_6 : decode cX10_size 6 = .ok (.if_icmp .ge 21, 3) := by decide +kernel
theorem dX10_size_9 : decode cX10_size 9 = .ok (.iload_n 1, 1) := by decide +kernel
theorem dX10_size_10 : decode cX10_size 10 = .ok (.aload_n 0, 1) := by decide +kernel
theorem dX10_size_11 : decode cX10_size 11 = .ok (.getfield 9, 3) := by decide +kernel
theorem dX10_size_14 : decode cX10_size 14 = .ok (.iload_n 2, 1) := by decide +kernel
theorem dX10_size_15 : decode cX10_size 15 = .ok (.laload, 1) := by decide +kernel
theorem dX10_size_16 : decode cX10_size 16 = .ok (.invokestatic 24, 3) := by decide +kernel
theorem dX10_size_19 : decode cX10_size 19 = .ok (.iadd, 1) := by decide +kernel
theorem dX10_size_20 : decode cX10_size 20 = .ok (.istore_n 1, 1) := by decide +kernel
theorem dX10_size_21 : decode cX10_size 21 = .ok (.iinc 2 1, 3) := by decide +kernel
theorem dX10_size_24 : decode cX10_size 24 = .ok (.goto (-20), 3) := by decide +kernel
theorem dX10_size_27 : decode cX10_size 27 = .ok (.iload_n 1, 1) := by decide +kernel
theorem dX10_size_28 : decode cX10_size 28 = .ok (.ireturn, 1) := by decide +kernel
theorem dX10_sizeWith_0 : decode cX10_sizeWith 0 = .ok (.iconst 0, 1) := by decide +kernel
theorem dX10_sizeWith_1 : decode cX10_sizeWith 1 = .ok (.istore_n 2, 1) := by decide +kernel
theorem dX10_sizeWith_2 : decode cX10_sizeWith 2 = .ok (.iconst 0, 1) := by decide +kernel
theorem dX10_sizeWith_3 : decode cX10_sizeWith 3 = .ok (.istore_n 3, 1) := by decide +kernel
theorem dX10_sizeWith_4 : decode cX10_sizeWith 4 = .ok (.iload_n 3, 1) := by decide +kernel
theorem dX10_sizeWith_5 : decode cX10_sizeWith 5 = .ok (.iconst 4, 1) := by decide +kernel
theorem dX10_sizeWith_6 : decode cX10_sizeWith 6 = .ok (.if_icmp .ge 28, 3) := by decide +kernel
theorem dX10_sizeWith_9 : decode cX10_sizeWith 9 = .ok (.iload_n 2, 1) := by decide +kernel
theorem dX10_sizeWith_10 : decode cX10_sizeWith 10 = .ok (.aload_n 0, 1) := by decide +kernel
theorem dX10_sizeWith_11 : decode cX10_sizeWith 11 = .ok (.getfield 9, 3) := by decide +kernel
theorem dX10_sizeWith_14 : decode cX10_sizeWith 14 = .ok (.iload_n 3, 1) := by decide +kernel
theorem dX10_sizeWith_15 : decode cX10_sizeWith 15 = .ok (.laload, 1) := by decide +kernel
theorem dX10_sizeWith_16 : decode cX10_sizeWith 16 = .ok (.aload_n 1, 1) := by decide +kernel
theorem dX10_sizeWith_17 : decode cX10_sizeWith 17 = .ok (.getfield 9, 3) := by decide +kernel
theorem dX10_sizeWith_20 : decode cX10_sizeWith 20 = .ok (.iload_n 3, 1) := by decide +kernel
theorem dX10_sizeWith_21 : decode cX10_sizeWith 21 = .ok (.laload, 1) := by decide +kernel
theorem dX10_sizeWith_22 : decode cX10_sizeWith 22 = .ok (.land, 1) := by decide +kernel
theorem dX10_sizeWith_23 : decode cX10_sizeWith 23 = .ok (.invokestatic 24, 3) := by decide +kernel
theorem dX10_sizeWith_26 : decode cX10_sizeWith 26 = .ok (.iadd, 1) := by decide +kernel
theorem dX10_sizeWith_27 : decode cX10_sizeWith 27 = .ok (.istore_n 2, 1) := by decide +kernel
theorem dX10_sizeWith_28 : decode cX10_sizeWith 28 = .ok (.iinc 3 1, 3) := by decide +kernel
theorem dX10_sizeWith_31 : decode cX10_sizeWith 31 = .ok (.goto (-27), 3) := by decide +kernel
theorem dX10_sizeWith_34 : decode cX10_sizeWith 34 = .ok (.iload_n 2, 1) := by decide +kernel
theorem dX10_sizeWith_35 : decode cX10_sizeWith 35 = .ok (.ireturn, 1) := by decide +kernel
theorem dX11_isWorld_0 : decode cX11_isWorld 0 = .ok (.iload_n 0, 1) := by decide +kernel
theorem dX11_isWorld_1 : decode cX11_isWorld 1 = .ok (.ifCond .lt 14, 3) := by decide +kernel
theorem dX11_isWorld_4 : decode cX11_isWorld 4 = .ok (.iload_n 0, 1) := by decide +kernel
theorem dX11_isWorld_5 : decode cX11_isWorld 5 = .ok (.sipush 256, 3) := by decide +kernel
theorem dX11_isWorld_8 : decode cX11_isWorld 8 = .ok (.if_icmp .ge 7, 3) := by decide +kernel
theorem dX11_isWorld_11 : decode cX11_isWorld 11 = .ok (.iconst 1, 1) := by decide +kernel
theorem dX11_isWorld_12 : decode cX11_isWorld 12 = .ok (.goto 4, 3) := by decide +kernel
theorem dX11_isWorld_15 : decode cX11_isWorld 15 = .ok (.iconst 0, 1) := by decide +kernel
theorem dX11_isWorld_16 : decode cX11_isWorld 16 = .ok (.ireturn, 1) := by decide +kernel
theorem dX10_partWhereSo_0 : decode cX10_partWhereSo 0 = .ok (.iload_n 0, 1) := by decide +kernel
theorem dX10_partWhereSo_1 : decode cX10_partWhereSo 1 = .ok (.ifCond .lt 17, 3) := by decide +kernel
theorem dX10_partWhereSo_4 : decode cX10_partWhereSo 4 = .ok (.iload_n 0, 1) := by decide +kernel
theorem dX10_partWhereSo_5 : decode cX10_partWhereSo 5 = .ok (.getstatic 15, 3) := by decide +kernel
theorem dX10_partWhereSo_8 : decode cX10_partWhereSo 8 = .ok (.arraylength, 1) := by decide +kernel
theorem dX10_partWhereSo_9 : decode cX10_partWhereSo 9 = .ok (.if_icmp .ge 9, 3) := by decide +kernel
theorem dX10_partWhereSo_12 : decode cX10_partWhereSo 12 = .ok (.getstatic 15, 3) := by decide +kernel
theorem dX10_partWhereSo_15 : decode cX10_partWhereSo 15 = .ok (.iload_n 0, 1) := by decide +kernel
theorem dX10_partWhereSo_16 : decode cX10_partWhereSo 16 = .ok (.laload, 1) := by decide +kernel
theorem dX10_partWhereSo_17 : decode cX10_partWhereSo 17 = .ok (.lreturn, 1) := by decide +kernel
theorem dX10_partWhereSo_18 : decode cX10_partWhereSo 18 = .ok (.iload_n 1, 1) := by decide +kernel
theorem dX10_partWhereSo_19 : decode cX10_partWhereSo 19 = .ok (.iload_n 0, 1) := by decide +kernel
theorem dX10_partWhereSo_20 : decode cX10_partWhereSo 20 = .ok (.getstatic 15, 3) := by decide +kernel
theorem dX10_partWhereSo_23 : decode cX10_partWhereSo 23 = .ok (.arraylength, 1) := by decide +kernel
theorem dX10_partWhereSo_24 : decode cX10_partWhereSo 24 = .ok (.isub, 1) := by decide +kernel
theorem dX10_partWhereSo_25 : decode cX10_partWhereSo 25 = .ok (.ishr, 1) := by decide +kernel
theorem dX10_partWhereSo_26 : decode cX10_partWhereSo 26 = .ok (.iconst 1, 1) := by decide +kernel
theorem dX10_partWhereSo_27 : decode cX10_partWhereSo 27 = .ok (.iand, 1) := by decide +kernel
theorem dX10_partWhereSo_28 : decode cX10_partWhereSo 28 = .ok (.ifCond .eq 9, 3) := by decide +kernel
theorem dX10_partWhereSo_31 : decode cX10_partWhereSo 31 = .ok (.ldc2_w 18, 3) := by decide +kernel
theorem dX10_partWhereSo_34 : decode cX10_partWhereSo 34 = .ok (.goto 4, 3) := by decide +kernel
theorem dX10_partWhereSo_37 : decode cX10_partWhereSo 37 = .ok (.lconst 0, 1) := by decide +kernel
theorem dX10_partWhereSo_38 : decode cX10_partWhereSo 38 = .ok (.lreturn, 1) := by decide +kernel
theorem dX10_has_0 : decode cX10_has 0 = .ok (.iload_n 1, 1) := by decide +kernel
theorem dX10_has_1 : decode cX10_has 1 = .ok (.invokestatic 20, 3) := by decide +kernel
theorem dX10_has_4 : decode cX10_has 4 = .ok (.ifCond .eq 28, 3) := by decide +kernel
theorem dX10_has_7 : decode cX10_has 7 = .ok (.aload_n 0, 1) := by decide +kernel
theorem dX10_has_8 : decode cX10_has 8 = .ok (.getfield 9, 3) := by decide +kernel
theorem dX10_has_11 : decode cX10_has 11 = .ok (.iload_n 1, 1) := by decide +kernel
theorem dX10_has_12 : decode cX10_has 12 = .ok (.bipush 6, 2) := by decide +kernel
theorem dX10_has_14 : decode cX10_has 14 = .ok (.ishr, 1) := by decide +kernel
theorem dX10_has_15 : decode cX10_has 15 = .ok (.laload, 1) := by decide +kernel
theorem dX10_has_16 : decode cX10_has 16 = .ok (.iload_n 1, 1) := by decide +kernel
theorem dX10_has_17 : decode cX10_has 17 = .ok (.bipush 63, 2) := by decide +kernel
theorem dX10_has_19 : decode cX10_has 19 = .ok (.iand, 1) := by decide +kernel
theorem dX10_has_20 : decode cX10_has 20 = .ok (.lushr, 1) := by decide +kernel
theorem dX10_has_21 : decode cX10_has 21 = .ok (.lconst 1, 1) := by decide +kernel
theorem dX10_has_22 : decode cX10_has 22 = .ok (.land, 1) := by decide +kernel
theorem dX10_has_23 : decode cX10_has 23 = .ok (.lconst 0, 1) := by decide +kernel
theorem dX10_has_24 : decode cX10_has 24 = .ok (.lcmp, 1) := by decide +kernel
theorem dX10_has_25 : decode cX10_has 25 = .ok (.ifCond .eq 7, 3) := by decide +kernel
theorem dX10_has_28 : decode cX10_has 28 = .ok (.iconst 1, 1) := by decide +kernel
theorem dX10_has_29 : decode cX10_has 29 = .ok (.goto 4, 3) := by decide +kernel
theorem dX10_has_32 : decode cX10_has 32 = .ok (.iconst 0, 1) := by decide +kernel
theorem dX10_has_33 : decode cX10_has 33 = .ok (.ireturn, 1) := by decide +kernel
theorem dX10_isWithin_0 : decode cX10_isWithin 0 = .ok (.aload_n 0, 1) := by decide +kernel
theorem dX10_isWithin_1 : decode cX10_isWithin 1 = .ok (.aload_n 1, 1) := by decide +kernel
theorem dX10_isWithin_2 : decode cX10_isWithin 2 = .ok (.invokevirtual 30, 3) := by decide +kernel
theorem dX10_isWithin_5 : decode cX10_isWithin 5 = .ok (.aload_n 0, 1) := by decide +kernel
theorem dX10_isWithin_6 : decode cX10_isWithin 6 = .ok (.invokevirtual 34, 3) := by decide +kernel
theorem dX10_isWithin_9 : decode cX10_isWithin 9 = .ok (.if_icmp .ne 7, 3) := by decide +kernel
theorem dX10_isWithin_12 : decode cX10_isWithin 12 = .ok (.iconst 1, 1) := by decide +kernel
theorem dX10_isWithin_13 : decode cX10_isWithin 13 = .ok (.goto 4, 3) := by decide +kernel
theorem dX10_isWithin_16 : decode cX10_isWithin 16 = .ok (.iconst 0, 1) := by decide +kernel
theorem dX10_isWithin_17 : decode cX10_isWithin 17 = .ok (.ireturn, 1) := by decide +kernel
theorem dX10_part_0 : decode cX10_part 0 = .ok (.iload_n 1, 1) := by decide +kernel
theorem dX10_part_1 : decode cX10_part 1 = .ok (.ifCond .lt 8, 3) := by decide +kernel
theorem dX10_part_4 : decode cX10_part 4 = .ok (.iload_n 1, 1) := by decide +kernel
theorem dX10_part_5 : decode cX10_part 5 = .ok (.iconst 4, 1) := by decide +kernel
theorem dX10_part_6 : decode cX10_part 6 = .ok (.if_icmp .lt 7, 3) := by decide +kernel
theorem dX10_part_9 : decode cX10_part 9 = .ok (.lconst 0, 1) := by decide +kernel
theorem dX10_part_10 : decode cX10_part 10 = .ok (.goto 9, 3) := by decide +kernel
theorem dX10_part_13 : decode cX10_part 13 = .ok (.aload_n 0, 1) := by decide +kernel
theorem dX10_part_14 : decode cX10_part 14 = .ok (.getfield 9, 3) := by decide +kernel
theorem dX10_part_17 : decode cX10_part 17 = .ok (.iload_n 1, 1) := by decide +kernel
theorem dX10_part_18 : decode cX10_part 18 = .ok (.laload, 1) := by decide +kernel
theorem dX10_part_19 : decode cX10_part 19 = .ok (.lreturn, 1) := by decide +kernel
theorem dX10_leastWorld_0 : decode cX10_leastWorld 0 = .ok (.iconst 0, 1) := by decide +kernel
theorem dX10_leastWorld_1 : decode cX10_leastWorld 1 = .ok (.istore_n 1, 1) := by decide +kernel
theorem dX10_leastWorld_2 : decode cX10_leastWorld 2 = .ok (.iload_n 1, 1) := by decide +kernel
theorem dX10_leastWorld_3 : decode cX10_leastWorld 3 = .ok (.iconst 4, 1) := by decide +kernel
theorem dX10_leastWorld_4 : decode cX10_leastWorld 4 = .ok (.if_icmp .ge 47, 3) := by decide +kernel
theorem dX10_leastWorld_7 : decode cX10_leastWorld 7 = .ok (.aload_n 0, 1) := by decide +kernel
theorem dX10_leastWorld_8 : decode cX10_leastWorld 8 = .ok (.getfield 9, 3) := by decide +kernel
theorem dX10_leastWorld_11 : decode cX10_leastWorld 11 = .ok (.iload_n 1, 1) := by decide +kernel
theorem dX10_leastWorld_12 : decode cX10_leastWorld 12 = .ok (.laload, 1) := by decide +kernel
theorem dX10_leastWorld_13 : decode cX10_leastWorld 13 = .ok (.lconst 0, 1) := by decide +kernel
theorem dX10_leastWorld_14 : decode cX10_leastWorld 14 = .ok (.lcmp, 1) := by decide +kernel
theorem dX10_leastWorld_15 : decode cX10_leastWorld 15 = .ok (.ifCond .eq 30, 3) := by decide +kernel
theorem dX10_leastWorld_18 : decode cX10_leastWorld 18 = .ok (.aload_n 0, 1) := by decide +kernel
theorem dX10_leastWorld_19 : decode cX10_leastWorld 19 = .ok (.getfield 9, 3) := by decide +kernel
theorem dX10_leastWorld_22 : decode cX10_leastWorld 22 = .ok (.iload_n 1, 1) := by decide +kernel
theorem dX10_leastWorld_23 : decode cX10_leastWorld 23 = .ok (.laload, 1) := by decide +kernel
theorem dX10_leastWorld_24 : decode cX10_leastWorld 24 = .ok (.aload_n 0, 1) := by decide +kernel
theorem dX10_leastWorld_25 : decode cX10_leastWorld 25 = .ok (.getfield 9, 3) := by decide +kernel
theorem dX10_leastWorld_28 : decode cX10_leastWorld 28 = .ok (.iload_n 1, 1) := by decide +kernel
theorem dX10_leastWorld_29 : decode cX10_leastWorld 29 = .ok (.laload, 1) := by decide +kernel
theorem dX10_leastWorld_30 : decode cX10_leastWorld 30 = .ok (.lneg, 1) := by decide +kernel
theorem dX10_leastWorld_31 : decode cX10_leastWorld 31 = .ok (.land, 1) := by decide +kernel
theorem dX10_leastWorld_32 : decode cX10_leastWorld 32 = .ok (.lstore_n 2, 1) := by decide +kernel
theorem dX10_leastWorld_33 : decode cX10_leastWorld 33 = .ok (.bipush 64, 2) := by decide +kernel
theorem dX10_leastWorld_35 : decode cX10_leastWorld 35 = .ok (.iload_n 1, 1) := by decide +kernel
theorem dX10_leastWorld_36 : decode cX10_leastWorld 36 = .ok (.imul, 1) := by decide +kernel
theorem dX10_leastWorld_37 : decode cX10_leastWorld 37 = .ok (.lload_n 2, 1) := by decide +kernel
theorem dX10_leastWorld_38 : decode cX10_leastWorld 38 = .ok (.lconst 1, 1) := by decide +kernel
theorem dX10_leastWorld_39 : decode cX10_leastWorld 39 = .ok (.lsub, 1) := by decide +kernel
theorem dX10_leastWorld_40 : decode cX10_leastWorld 40 = .ok (.invokestatic 24, 3) := by decide +kernel
theorem dX10_leastWorld_43 : decode cX10_leastWorld 43 = .ok (.iadd, 1) := by decide +kernel
theorem dX10_leastWorld_44 : decode cX10_leastWorld 44 = .ok (.ireturn, 1) := by decide +kernel
theorem dX10_leastWorld_45 : decode cX10_leastWorld 45 = .ok (.iinc 1 1, 3) := by decide +kernel
theorem dX10_leastWorld_48 : decode cX10_leastWorld 48 = .ok (.goto (-46), 3) := by decide +kernel
theorem dX10_leastWorld_51 : decode cX10_leastWorld 51 = .ok (.iconst (-1), 1) := by decide +kernel
theorem dX10_leastWorld_52 : decode cX10_leastWorld 52 = .ok (.ireturn, 1) := by decide +kernel
theorem dX10_partTurned_0 : decode cX10_partTurned 0 = .ok (.iload_n 2, 1) := by decide +kernel
theorem dX10_partTurned_1 : decode cX10_partTurned 1 = .ok (.ifCond .lt 8, 3) := by decide +kernel
theorem dX10_partTurned_4 : decode cX10_partTurned 4 = .ok (.iload_n 2, 1) := by decide +kernel
theorem dX10_partTurned_5 : decode cX10_partTurned 5 = .ok (.iconst 4, 1) := by decide +kernel
theorem dX10_partTurned_6 : decode cX10_partTurned 6 = .ok (.if_icmp .lt 5, 3) := by decide +kernel
theorem dX10_partTurned_9 : decode cX10_partTurned 9 = .ok (.lconst 0, 1) := by decide +kernel
theorem dX10_partTurned_10 : decode cX10_partTurned 10 = .ok (.lreturn, 1) := by decide +kernel
theorem dX10_partTurned_11 : decode cX10_partTurned 11 = .ok (.iload_n 1, 1) := by decide +kernel
theorem dX10_partTurned_12 : decode cX10_partTurned 12 = .ok (.ifCond .lt 45, 3) := by decide +kernel
theorem dX10_partTurned_15 : decode cX10_partTurned 15 = .ok (.iload_n 1, 1) := by decide +kernel
theorem dX10_partTurned_16 : decode cX10_partTurned 16 = .ok (.getstatic 15, 3) := by decide +kernel
theorem dX10_partTurned_19 : decode cX10_partTurned 19 = .ok (.arraylength, 1) := by decide +kernel
theorem dX10_partTurned_20 : decode cX10_partTurned 20 = .ok (.if_icmp .ge 37, 3) := by decide +kernel
theorem dX10_partTurned_23 : decode cX10_partTurned 23 = .ok (.iconst 1, 1) := by decide +kernel
theorem dX10_partTurned_24 : decode cX10_partTurned 24 = .ok (.iload_n 1, 1) := by decide +kernel
theorem dX10_partTurned_25 : decode cX10_partTurned 25 = .ok (.ishl, 1) := by decide +kernel
theorem dX10_partTurned_26 : decode cX10_partTurned 26 = .ok (.istore_n 3, 1) := by decide +kernel
theorem dX10_partTurned_27 : decode cX10_partTurned 27 = .ok (.aload_n 0, 1) := by decide +kernel
theorem dX10_partTurned_28 : decode cX10_partTurned 28 = .ok (.getfield 9, 3) := by decide +kernel
theorem dX10_partTurned_31 : decode cX10_partTurned 31 = .ok (.iload_n 2, 1) := by decide +kernel
theorem dX10_partTurned_32 : decode cX10_partTurned 32 = .ok (.laload, 1) := by decide +kernel
theorem dX10_partTurned_33 : decode cX10_partTurned 33 = .ok (.getstatic 15, 3) := by decide +kernel
theorem dX10_partTurned_36 : decode cX10_partTurned 36 = .ok (.iload_n 1, 1) := by decide +kernel
theorem dX10_partTurned_37 : decode cX10_partTurned 37 = .ok (.laload, 1) := by decide +kernel
theorem dX10_partTurned_38 : decode cX10_partTurned 38 = .ok (.land, 1) := by decide +kernel
theorem dX10_partTurned_39 : decode cX10_partTurned 39 = .ok (.iload_n 3, 1) := by decide +kernel
theorem dX10_partTurned_40 : decode cX10_partTurned 40 = .ok (.lushr, 1) := by decide +kernel
theorem dX10_partTurned_41 : decode cX10_partTurned 41 = .ok (.aload_n 0, 1) := by decide +kernel
theorem dX10_partTurned_42 : decode cX10_partTurned 42 = .ok (.getfield 9, 3) := by decide +kernel
theorem dX10_partTurned_45 : decode cX10_partTurned 45 = .ok (.iload_n 2, 1) := by decide +kernel
theorem dX10_partTurned_46 : decode cX10_partTurned 46 = .ok (.laload, 1) := by decide +kernel
theorem dX10_partTurned_47 : decode cX10_partTurned 47 = .ok (.iload_n 3, 1) := by decide +kernel
theorem dX10_partTurned_48 : decode cX10_partTurned 48 = .ok (.lshl, 1) := by decide +kernel
theorem dX10_partTurned_49 : decode cX10_partTurned 49 = .ok (.getstatic 15, 3) := by decide +kernel
theorem dX10_partTurned_52 : decode cX10_partTurned 52 = .ok (.iload_n 1, 1) := by decide +kernel
theorem dX10_partTurned_53 : decode cX10_partTurned 53 = .ok (.laload, 1) := by decide +kernel
theorem dX10_partTurned_54 : decode cX10_partTurned 54 = .ok (.land, 1) := by decide +kernel
theorem dX10_partTurned_55 : decode cX10_partTurned 55 = .ok (.lor, 1) := by decide +kernel
theorem dX10_partTurned_56 : decode cX10_partTurned 56 = .ok (.lreturn, 1) := by decide +kernel
theorem dX10_partTurned_57 : decode cX10_partTurned 57 = .ok (.iload_n 2, 1) := by decide +kernel
theorem dX10_partTurned_58 : decode cX10_partTurned 58 = .ok (.iconst 1, 1) := by decide +kernel
theorem dX10_partTurned_59 : decode cX10_partTurned 59 = .ok (.iload_n 1, 1) := by decide +kernel
theorem dX10_partTurned_60 : decode cX10_partTurned 60 = .ok (.getstatic 15, 3) := by decide +kernel
theorem dX10_partTurned_63 : decode cX10_partTurned 63 = .ok (.arraylength, 1) := by decide +kernel
theorem dX10_partTurned_64 : decode cX10_partTurned 64 = .ok (.isub, 1) := by decide +kernel
theorem dX10_partTurned_65 : decode cX10_partTurned 65 = .ok (.ishl, 1) := by decide +kernel
theorem dX10_partTurned_66 : decode cX10_partTurned 66 = .ok (.ixor, 1) := by decide +kernel
theorem dX10_partTurned_67 : decode cX10_partTurned 67 = .ok (.istore_n 3, 1) := by decide +kernel
theorem dX10_partTurned_68 : decode cX10_partTurned 68 = .ok (.iload_n 3, 1) := by decide +kernel
theorem dX10_partTurned_69 : decode cX10_partTurned 69 = .ok (.ifCond .lt 8, 3) := by decide +kernel
theorem dX10_partTurned_72 : decode cX10_partTurned 72 = .ok (.iload_n 3, 1) := by decide +kernel
theorem dX10_partTurned_73 : decode cX10_partTurned 73 = .ok (.iconst 4, 1) := by decide +kernel
theorem dX10_partTurned_74 : decode cX10_partTurned 74 = .ok (.if_icmp .lt 7, 3) := by decide +kernel
theorem dX10_partTurned_77 : decode cX10_partTurned 77 = .ok (.lconst 0, 1) := by decide +kernel
theorem dX10_partTurned_78 : decode cX10_partTurned 78 = .ok (.goto 9, 3) := by decide +kernel
theorem dX10_partTurned_81 : decode cX10_partTurned 81 = .ok (.aload_n 0, 1) := by decide +kernel
theorem dX10_partTurned_82 : decode cX10_partTurned 82 = .ok (.getfield 9, 3) := by decide +kernel
theorem dX10_partTurned_85 : decode cX10_partTurned 85 = .ok (.iload_n 3, 1) := by decide +kernel
theorem dX10_partTurned_86 : decode cX10_partTurned 86 = .ok (.laload, 1) := by decide +kernel
theorem dX10_partTurned_87 : decode cX10_partTurned 87 = .ok (.lreturn, 1) := by decide +kernel
theorem dX10_hangsOn_0 : decode cX10_hangsOn 0 = .ok (.iconst 0, 1) := by decide +kernel
theorem dX10_hangsOn_1 : decode cX10_hangsOn 1 = .ok (.istore_n 2, 1) := by decide +kernel
theorem dX10_hangsOn_2 : decode cX10_hangsOn 2 = .ok (.iload_n 2, 1) := by decide +kernel
theorem dX10_hangsOn_3 : decode cX10_hangsOn 3 = .ok (.iconst 4, 1) := by decide +kernel
theorem dX10_hangsOn_4 : decode cX10_hangsOn 4 = .ok (.if_icmp .ge 27, 3) := by decide +kernel
theorem dX10_hangsOn_7 : decode cX10_hangsOn 7 = .ok (.aload_n 0, 1) := by decide +kernel
theorem dX10_hangsOn_8 : decode cX10_hangsOn 8 = .ok (.iload_n 1, 1) := by decide +kernel
theorem dX10_hangsOn_9 : decode cX10_hangsOn 9 = .ok (.iload_n 2, 1) := by decide +kernel
theorem dX10_hangsOn_10 : decode cX10_hangsOn 10 = .ok (.invokevirtual 48, 3) := by decide +kernel
theorem dX10_hangsOn_13 : decode cX10_hangsOn 13 = .ok (.aload_n 0, 1) := by decide +kernel
theorem dX10_hangsOn_14 : decode cX10_hangsOn 14 = .ok (.getfield 9, 3) := by decide +kernel
theorem dX10_hangsOn_17 : decode cX10_hangsOn 17 = .ok (.iload_n 2, 1) := by decide +kernel
theorem dX10_hangsOn_18 : decode cX10_hangsOn 18 = .ok (.laload, 1) := by decide +kernel
theorem dX10_hangsOn_19 : decode cX10_hangsOn 19 = .ok (.lcmp, 1) := by decide +kernel
theorem dX10_hangsOn_20 : decode cX10_hangsOn 20 = .ok (.ifCond .eq 5, 3) := by decide +kernel
theorem dX10_hangsOn_23 : decode cX10_hangsOn 23 = .ok (.iconst 1, 1) := by decide +kernel
theorem dX10_hangsOn_24 : decode cX10_hangsOn 24 = .ok (.ireturn, 1) := by decide +kernel
theorem dX10_hangsOn_25 : decode cX10_hangsOn 25 = .ok (.iinc 2 1, 3) := by decide +kernel
theorem dX10_hangsOn_28 : decode cX10_hangsOn 28 = .ok (.goto (-26), 3) := by decide +kernel
theorem dX10_hangsOn_31 : decode cX10_hangsOn 31 = .ok (.iconst 0, 1) := by decide +kernel
theorem dX10_hangsOn_32 : decode cX10_hangsOn 32 = .ok (.ireturn, 1) := by decide +kernel
theorem dX10_spread_0 : decode cX10_spread 0 = .ok (.iconst 0, 1) := by decide +kernel
theorem dX10_spread_1 : decode cX10_spread 1 = .ok (.istore_n 2, 1) := by decide +kernel
theorem dX10_spread_2 : decode cX10_spread 2 = .ok (.iload_n 2, 1) := by decide +kernel
theorem dX10_spread_3 : decode cX10_spread 3 = .ok (.iconst 4, 1) := by decide +kernel
theorem dX10_spread_4 : decode cX10_spread 4 = .ok (.if_icmp .ge 24, 3) := by decide +kernel
theorem dX10_spread_7 : decode cX10_spread 7 = .ok (.aload_n 0, 1) := by decide +kernel
theorem dX10_spread_8 : decode cX10_spread 8 = .ok (.getfield 9, 3) := by decide +kernel
theorem dX10_spread_11 : decode cX10_spread 11 = .ok (.iload_n 2, 1) := by decide +kernel
theorem dX10_spread_12 : decode cX10_spread 12 = .ok (.dup2, 1) := by decide +kernel
theorem dX10_spread_13 : decode cX10_spread 13 = .ok (.laload, 1) := by decide +kernel
theorem dX10_spread_14 : decode cX10_spread 14 = .ok (.aload_n 0, 1) := by decide +kernel
theorem dX10_spread_15 : decode cX10_spread 15 = .ok (.iload_n 1, 1) := by decide +kernel
theorem dX10_spread_16 : decode cX10_spread 16 = .ok (.iload_n 2, 1) := by decide +kernel
theorem dX10_spread_17 : decode cX10_spread 17 = .ok (.invokevirtual 48, 3) := by decide +kernel
theorem dX10_spread_20 : decode cX10_spread 20 = .ok (.lor, 1) := by decide +kernel
theorem dX10_spread_21 : decode cX10_spread 21 = .ok (.lastore, 1) := by decide +kernel
theorem dX10_spread_22 : decode cX10_spread 22 = .ok (.iinc 2 1, 3) := by decide +kernel
theorem dX10_spread_25 : decode cX10_spread 25 = .ok (.goto (-23), 3) := by decide +kernel
theorem dX10_spread_28 : decode cX10_spread 28 = .ok (.return_, 1) := by decide +kernel
theorem dX10_joinWhere_0 : decode cX10_joinWhere 0 = .ok (.iconst 0, 1) := by decide +kernel
theorem dX10_joinWhere_1 : decode cX10_joinWhere 1 = .ok (.istore_n 3, 1) := by decide +kernel
theorem dX10_joinWhere_2 : decode cX10_joinWhere 2 = .ok (.iload_n 3, 1) := by decide +kernel
theorem dX10_joinWhere_3 : decode cX10_joinWhere 3 = .ok (.iconst 4, 1) := by decide +kernel
theorem dX10_joinWhere_4 : decode cX10_joinWhere 4 = .ok (.if_icmp .ge 40, 3) := by decide +kernel
theorem dX10_joinWhere_7 : decode cX10_joinWhere 7 = .ok (.iload_n 1, 1) := by decide +kernel
theorem dX10_joinWhere_8 : decode cX10_joinWhere 8 = .ok (.iload_n 3, 1) := by decide +kernel
theorem dX10_joinWhere_9 : decode cX10_joinWhere 9 = .ok (.invokestatic 44, 3) := by decide +kernel
theorem dX10_joinWhere_12 : decode cX10_joinWhere 12 = .ok (.lstore 4, 2) := by decide +kernel
theorem dX10_joinWhere_14 : decode cX10_joinWhere 14 = .ok (.aload_n 0, 1) := by decide +kernel
theorem dX10_joinWhere_15 : decode cX10_joinWhere 15 = .ok (.getfield 9, 3) := by decide +kernel
theorem dX10_joinWhere_18 : decode cX10_joinWhere 18 = .ok (.iload_n 3, 1) := by decide +kernel
theorem dX10_joinWhere_19 : decode cX10_joinWhere 19 = .ok (.dup2, 1) := by decide +kernel
theorem dX10_joinWhere_20 : decode cX10_joinWhere 20 = .ok (.laload, 1) := by decide +kernel
theorem dX10_joinWhere_21 : decode cX10_joinWhere 21 = .ok (.iload_n 2, 1) := by decide +kernel
theorem dX10_joinWhere_22 : decode cX10_joinWhere 22 = .ok (.ifCond .eq 8, 3) := by decide +kernel
theorem dX10_joinWhere_25 : decode cX10_joinWhere 25 = .ok (.lload 4, 2) := by decide +kernel
theorem dX10_joinWhere_27 : decode cX10_joinWhere 27 = .ok (.goto 9, 3) := by decide +kernel
theorem dX10_joinWhere_30 : decode cX10_joinWhere 30 = .ok (.lload 4, 2) := by decide +kernel
theorem dX10_joinWhere_32 : decode cX10_joinWhere 32 = .ok (.ldc2_w 18, 3) := by decide +kernel
theorem dX10_joinWhere_35 : decode cX10_joinWhere 35 = .ok (.lxor, 1) := by decide +kernel
theorem dX10_joinWhere_36 : decode cX10_joinWhere 36 = .ok (.lor, 1) := by decide +kernel
theorem dX10_joinWhere_37 : decode cX10_joinWhere 37 = .ok (.lastore, 1) := by decide +kernel
theorem dX10_joinWhere_38 : decode cX10_joinWhere 38 = .ok (.iinc 3 1, 3) := by decide +kernel
theorem dX10_joinWhere_41 : decode cX10_joinWhere 41 = .ok (.goto (-39), 3) := by decide +kernel
theorem dX10_joinWhere_44 : decode cX10_joinWhere 44 = .ok (.return_, 1) := by decide +kernel
theorem dX10_choose_0 : decode cX10_choose 0 = .ok (.iconst 0, 1) := by decide +kernel
theorem dX10_choose_1 : decode cX10_choose 1 = .ok (.istore 4, 2) := by decide +kernel
theorem dX10_choose_3 : decode cX10_choose 3 = .ok (.iload 4, 2) := by decide +kernel
theorem dX10_choose_5 : decode cX10_choose 5 = .ok (.iconst 4, 1) := by decide +kernel
theorem dX10_choose_6 : decode cX10_choose 6 = .ok (.if_icmp .ge 49, 3) := by decide +kernel
theorem dX10_choose_9 : decode cX10_choose 9 = .ok (.iload_n 1, 1) := by decide +kernel
theorem dX10_choose_10 : decode cX10_choose 10 = .ok (.iload 4, 2) := by decide +kernel
theorem dX10_choose_12 : decode cX10_choose 12 = .ok (.invokestatic 44, 3) := by decide +kernel
theorem dX10_choose_15 : decode cX10_choose 15 = .ok (.lstore 5, 2) := by decide +kernel
theorem dX10_choose_17 : decode cX10_choose 17 = .ok (.aload_n 0, 1) := by decide +kernel
theorem dX10_choose_18 : decode cX10_choose 18 = .ok (.getfield 9, 3) := by decide +kernel
theorem dX10_choose_21 : decode cX10_choose 21 = .ok (.iload 4, 2) := by decide +kernel
theorem dX10_choose_23 : decode cX10_choose 23 = .ok (.lload 5, 2) := by decide +kernel
theorem dX10_choose_25 : decode cX10_choose 25 = .ok (.aload_n 2, 1) := by decide +kernel
theorem dX10_choose_26 : decode cX10_choose 26 = .ok (.getfield 9, 3) := by decide +kernel
theorem dX10_choose_29 : decode cX10_choose 29 = .ok (.iload 4, 2) := by decide +kernel
theorem dX10_choose_31 : decode cX10_choose 31 = .ok (.laload, 1) := by decide +kernel
theorem dX10_choose_32 : decode cX10_choose 32 = .ok (.land, 1) := by decide +kernel
theorem dX10_choose_33 : decode cX10_choose 33 = .ok (.lload 5, 2) := by decide +kernel
theorem dX10_choose_35 : decode cX10_choose 35 = .ok (.ldc2_w 18, 3) := by decide +kernel
theorem dX10_choose_38 : decode cX10_choose 38 = .ok (.lxor, 1) := by decide +kernel
theorem dX10_choose_39 : decode cX10_choose 39 = .ok (.aload_n 3, 1) := by decide +kernel
theorem dX10_choose_40 : decode cX10_choose 40 = .ok (.getfield 9, 3) := by decide +kernel
theorem dX10_choose_43 : decode cX10_choose 43 = .ok (.iload 4, 2) := by decide +kernel
theorem dX10_choose_45 : decode cX10_choose 45 = .ok (.laload, 1) := by decide +kernel
theorem dX10_choose_46 : decode cX10_choose 46 = .ok (.land, 1) := by decide +kernel
theorem dX10_choose_47 : decode cX10_choose 47 = .ok (.lor, 1) := by decide +kernel
theorem dX10_choose_48 : decode cX10_choose 48 = .ok (.lastore, 1) := by decide +kernel
theorem dX10_choose_49 : decode cX10_choose 49 = .ok (.iinc 4 1, 3) := by decide +kernel
theorem dX10_choose_52 : decode cX10_choose 52 = .ok (.goto (-49), 3) := by decide +kernel
theorem dX10_choose_55 : decode cX10_choose 55 = .ok (.return_, 1) := by decide +kernel
theorem dX10_spreadBut_0 : decode cX10_spreadBut 0 = .ok (.iconst 0, 1) := by decide +kernel
theorem dX10_spreadBut_1 : decode cX10_spreadBut 1 = .ok (.istore_n 2, 1) := by decide +kernel
theorem dX10_spreadBut_2 : decode cX10_spreadBut 2 = .ok (.iload_n 2, 1) := by decide +kernel
theorem dX10_spreadBut_3 : decode cX10_spreadBut 3 = .ok (.bipush 8, 2) := by decide +kernel
theorem dX10_spreadBut_5 : decode cX10_spreadBut 5 = .ok (.if_icmp .ge 22, 3) := by decide +kernel
theorem dX10_spreadBut_8 : decode cX10_spreadBut 8 = .ok (.iload_n 1, 1) := by decide +kernel
theorem dX10_spreadBut_9 : decode cX10_spreadBut 9 = .ok (.iload_n 2, 1) := by decide +kernel
theorem dX10_spreadBut_10 : decode cX10_spreadBut 10 = .ok (.ishr, 1) := by decide +kernel
theorem dX10_spreadBut_11 : decode cX10_spreadBut 11 = .ok (.iconst 1, 1) := by decide +kernel
theorem dX10_spreadBut_12 : decode cX10_spreadBut 12 = .ok (.iand, 1) := by decide +kernel
theorem dX10_spreadBut_13 : decode cX10_spreadBut 13 = .ok (.ifCond .ne 8, 3) := by decide +kernel
theorem dX10_spreadBut_16 : decode cX10_spreadBut 16 = .ok (.aload_n 0, 1) := by decide +kernel
theorem dX10_spreadBut_17 : decode cX10_spreadBut 17 = .ok (.iload_n 2, 1) := by decide +kernel
theorem dX10_spreadBut_18 : decode cX10_spreadBut 18 = .ok (.invokevirtual 51, 3) := by decide +kernel
theorem dX10_spreadBut_21 : decode cX10_spreadBut 21 = .ok (.iinc 2 1, 3) := by decide +kernel
theorem dX10_spreadBut_24 : decode cX10_spreadBut 24 = .ok (.goto (-22), 3) := by decide +kernel
theorem dX10_spreadBut_27 : decode cX10_spreadBut 27 = .ok (.return_, 1) := by decide +kernel
theorem dX10_lettersLookedAt_0 : decode cX10_lettersLookedAt 0 = .ok (.iconst 0, 1) := by decide +kernel
theorem dX10_lettersLookedAt_1 : decode cX10_lettersLookedAt 1 = .ok (.istore_n 1, 1) := by decide +kernel
theorem dX10_lettersLookedAt_2 : decode cX10_lettersLookedAt 2 = .ok (.iconst 0, 1) := by decide +kernel
theorem dX10_lettersLookedAt_3 : decode cX10_lettersLookedAt 3 = .ok (.istore_n 2, 1) := by decide +kernel
theorem dX10_lettersLookedAt_4 : decode cX10_lettersLookedAt 4 = .ok (.iload_n 2, 1) := by decide +kernel
theorem dX10_lettersLookedAt_5 : decode cX10_lettersLookedAt 5 = .ok (.bipush 8, 2) := by decide +kernel
theorem dX10_lettersLookedAt_7 : decode cX10_lettersLookedAt 7 = .ok (.if_icmp .ge 23, 3) := by decide +kernel
theorem dX10_lettersLookedAt_10 : decode cX10_lettersLookedAt 10 = .ok (.aload_n 0, 1) := by decide +kernel
theorem dX10_lettersLookedAt_11 : decode cX10_lettersLookedAt 11 = .ok (.iload_n 2, 1) := by decide +kernel
theorem dX10_lettersLookedAt_12 : decode cX10_lettersLookedAt 12 = .ok (.invokevirtual 55, 3) := by decide +kernel
theorem dX10_lettersLookedAt_15 : decode cX10_lettersLookedAt 15 = .ok (.ifCond .eq 9, 3) := by decide +kernel
theorem dX10_lettersLookedAt_18 : decode cX10_lettersLookedAt 18 = .ok (.iload_n 1, 1) := by decide +kernel
theorem dX10_lettersLookedAt_19 : decode cX10_lettersLookedAt 19 = .ok (.iconst 1, 1) := by decide +kernel
theorem dX10_lettersLookedAt_20 : decode cX10_lettersLookedAt 20 = .ok (.iload_n 2, 1) := by decide +kernel
theorem dX10_lettersLookedAt_21 : decode cX10_lettersLookedAt 21 = .ok (.ishl, 1) := by decide +kernel
theorem dX10_lettersLookedAt_22 : decode cX10_lettersLookedAt 22 = .ok (.ior, 1) := by decide +kernel
theorem dX10_lettersLookedAt_23 : decode cX10_lettersLookedAt 23 = .ok (.istore_n 1, 1) := by decide +kernel
theorem dX10_lettersLookedAt_24 : decode cX10_lettersLookedAt 24 = .ok (.iinc 2 1, 3) := by decide +kernel
theorem dX10_lettersLookedAt_27 : decode cX10_lettersLookedAt 27 = .ok (.goto (-23), 3) := by decide +kernel
theorem dX10_lettersLookedAt_30 : decode cX10_lettersLookedAt 30 = .ok (.iload_n 1, 1) := by decide +kernel
theorem dX10_lettersLookedAt_31 : decode cX10_lettersLookedAt 31 = .ok (.ireturn, 1) := by decide +kernel
theorem dX10_put_0 : decode cX10_put 0 = .ok (.iload_n 1, 1) := by decide +kernel
theorem dX10_put_1 : decode cX10_put 1 = .ok (.invokestatic 20, 3) := by decide +kernel
theorem dX10_put_4 : decode cX10_put 4 = .ok (.ifCond .ne 4, 3) := by decide +kernel
theorem dX10_put_7 : decode cX10_put 7 = .ok (.return_, 1) := by decide +kernel
theorem dX10_put_8 : decode cX10_put 8 = .ok (.lconst 1, 1) := by decide +kernel
theorem dX10_put_9 : decode cX10_put 9 = .ok (.iload_n 1, 1) := by decide +kernel
theorem dX10_put_10 : decode cX10_put 10 = .ok (.bipush 63, 2) := by decide +kernel
theorem dX10_put_12 : decode cX10_put 12 = .ok (.iand, 1) := by decide +kernel
theorem dX10_put_13 : decode cX10_put 13 = .ok (.lshl, 1) := by decide +kernel
theorem dX10_put_14 : decode cX10_put 14 = .ok (.lstore_n 3, 1) := by decide +kernel
theorem dX10_put_15 : decode cX10_put 15 = .ok (.iload_n 2, 1) := by decide +kernel
theorem dX10_put_16 : decode cX10_put 16 = .ok (.ifCond .eq 19, 3) := by decide +kernel
theorem dX10_put_19 : decode cX10_put 19 = .ok (.aload_n 0, 1) := by decide +kernel
theorem dX10_put_20 : decode cX10_put 20 = .ok (.getfield 9, 3) := by decide +kernel
theorem dX10_put_23 : decode cX10_put 23 = .ok (.iload_n 1, 1) := by decide +kernel
theorem dX10_put_24 : decode cX10_put 24 = .ok (.bipush 6, 2) := by decide +kernel
theorem dX10_put_26 : decode cX10_put 26 = .ok (.ishr, 1) := by decide +kernel
theorem dX10_put_27 : decode cX10_put 27 = .ok (.dup2, 1) := by decide +kernel
theorem dX10_put_28 : decode cX10_put 28 = .ok (.laload, 1) := by decide +kernel
theorem dX10_put_29 : decode cX10_put 29 = .ok (.lload_n 3, 1) := by decide +kernel
theorem dX10_put_30 : decode cX10_put 30 = .ok (.lor, 1) := by decide +kernel
theorem dX10_put_31 : decode cX10_put 31 = .ok (.lastore, 1) := by decide +kernel
theorem dX10_put_32 : decode cX10_put 32 = .ok (.goto 20, 3) := by decide +kernel
theorem dX10_put_35 : decode cX10_put 35 = .ok (.aload_n 0, 1) := by decide +kernel
theorem dX10_put_36 : decode cX10_put 36 = .ok (.getfield 9, 3) := by decide +kernel
theorem dX10_put_39 : decode cX10_put 39 = .ok (.iload_n 1, 1) := by decide +kernel
theorem dX10_put_40 : decode cX10_put 40 = .ok (.bipush 6, 2) := by decide +kernel
theorem dX10_put_42 : decode cX10_put 42 = .ok (.ishr, 1) := by decide +kernel
theorem dX10_put_43 : decode cX10_put 43 = .ok (.dup2, 1) := by decide +kernel
theorem dX10_put_44 : decode cX10_put 44 = .ok (.laload, 1) := by decide +kernel
theorem dX10_put_45 : decode cX10_put 45 = .ok (.lload_n 3, 1) := by decide +kernel
theorem dX10_put_46 : decode cX10_put 46 = .ok (.ldc2_w 18, 3) := by decide +kernel
theorem dX10_put_49 : decode cX10_put 49 = .ok (.lxor, 1) := by decide +kernel
theorem dX10_put_50 : decode cX10_put 50 = .ok (.land, 1) := by decide +kernel
theorem dX10_put_51 : decode cX10_put 51 = .ok (.lastore, 1) := by decide +kernel
theorem dX10_put_52 : decode cX10_put 52 = .ok (.return_, 1) := by decide +kernel
def bc64 (x : Int64) : Int32 := let x1 : Int64 := x - (((x.toUInt64 >>> ((1 : Int32).toInt64.toUInt64 &&& Int64.toUInt64 63)).toInt64) &&& 6148914691236517205); let x3 : Int64 := (x1 &&& 3689348814741910323) + (((x1.toUInt64 >>> ((2 : Int32).toInt64.toUInt64 &&& Int64.toUInt64 63)).toInt64) &&& 3689348814741910323); let x5 : Int64 := (x3 + ((x3.toUInt64 >>> ((4 : Int32).toInt64.toUInt64 &&& Int64.toUInt64 63)).toInt64)) &&& 1085102592571150095; let x7 : Int64 := x5 + ((x5.toUInt64 >>> ((8 : Int32).toInt64.toUInt64 &&& Int64.toUInt64 63)).toInt64); let x9 : Int64 := x7 + ((x7.toUInt64 >>> ((16 : Int32).toInt64.toUInt64 &&& Int64.toUInt64 63)).toInt64); let x11 : Int64 := x9 + ((x9.toUInt64 >>> ((32 : Int32).toInt64.toUInt64 &&& Int64.toUInt64 63)).toInt64); ((x11 : Int64).toInt32) &&& 127
set_option maxRecDepth 20000 in
theorem s_J13_bitCount_95d88 {xs : Nat → Int32} {L d sz : Nat} {h : ev_H} {x : Int64}  : EV xs L (d + 0) 0 0 M_J13_bitCount_95d88 sz h 0 [some (.long x), none] [] (fun sz' h' r => sz' = sz ∧ h' = h ∧ r = [.int (bc64 x)]) := by
  refine r_lload_n rfl dJ13_bitCount_95d88_0 rfl ?_
  refine r_lload_n rfl dJ13_bitCount_95d88_1 rfl ?_
  refine r_iconst (v := 1) rfl dJ13_bitCount_95d88_2 (by decide) ?_
  refine r_lushr rfl dJ13_bitCount_95d88_3 ?_
  refine r_ldc2 (v := 6148914691236517205) rfl dJ13_bitCount_95d88_4 lc_J13_314 ?_
  refine r_land rfl dJ13_bitCount_95d88_7 ?_
  refine r_lsub rfl dJ13_bitCount_95d88_8 ?_
  refine r_topl (fun x1 e2 => ?_)
  refine r_lstore_n (ls' := [some (.long x1), none]) rfl dJ13_bitCount_95d88_9 (Nat.le_of_ble_eq_true rfl) rfl ?_
  refine r_lload_n rfl dJ13_bitCount_95d88_10 rfl ?_
  refine r_ldc2 (v := 3689348814741910323) rfl dJ13_bitCount_95d88_11 lc_J13_316 ?_
  refine r_land rfl dJ13_bitCount_95d88_14 ?_
  refine r_lload_n rfl dJ13_bitCount_95d88_15 rfl ?_
  refine r_iconst (v := 2) rfl dJ13_bitCount_95d88_16 (by decide) ?_
  refine r_lushr rfl dJ13_bitCount_95d88_17 ?_
  refine r_ldc2 (v := 3689348814741910323) rfl dJ13_bitCount_95d88_18 lc_J13_316 ?_
  refine r_land rfl dJ13_bitCount_95d88_21 ?_
  refine r_ladd rfl dJ13_bitCount_95d88_22 ?_
  refine r_topl (fun x3 e4 => ?_)
  refine r_lstore_n (ls' := [some (.long x3), none]) rfl dJ13_bitCount_95d88_23 (Nat.le_of_ble_eq_true rfl) rfl ?_
  refine r_lload_n rfl dJ13_bitCount_95d88_24 rfl ?_
  refine r_lload_n rfl dJ13_bitCount_95d88_25 rfl ?_
  refine r_iconst (v := 4) rfl dJ13_bitCount_95d88_26 (by decide) ?_
  refine r_lushr rfl dJ13_bitCount_95d88_27 ?_
  refine r_ladd rfl dJ13_bitCount_95d88_28 ?_
  refine r_ldc2 (v := 1085102592571150095) rfl dJ13_bitCount_95d88_29 lc_J13_318 ?_
  refine r_land rfl dJ13_bitCount_95d88_32 ?_
  refine r_topl (fun x5 e6 => ?_)
  refine r_lstore_n (ls' := [some (.long x5), none]) rfl dJ13_bitCount_95d88_33 (Nat.le_of_ble_eq_true rfl) rfl ?_
  refine r_lload_n rfl dJ13_bitCount_95d88_34 rfl ?_
  refine r_lload_n rfl dJ13_bitCount_95d88_35 rfl ?_
  refine r_bipush (v := 8) rfl dJ13_bitCount_95d88_36 (by decide) ?_
  refine r_lushr rfl dJ13_bitCount_95d88_38 ?_
  refine r_ladd rfl dJ13_bitCount_95d88_39 ?_
  refine r_topl (fun x7 e8 => ?_)
  refine r_lstore_n (ls' := [some (.long x7), none]) rfl dJ13_bitCount_95d88_40 (Nat.le_of_ble_eq_true rfl) rfl ?_
  refine r_lload_n rfl dJ13_bitCount_95d88_41 rfl ?_
  refine r_lload_n rfl dJ13_bitCount_95d88_42 rfl ?_
  refine r_bipush (v := 16) rfl dJ13_bitCount_95d88_43 (by decide) ?_
  refine r_lushr rfl dJ13_bitCount_95d88_45 ?_
  refine r_ladd rfl dJ13_bitCount_95d88_46 ?_
  refine r_topl (fun x9 e10 => ?_)
  refine r_lstore_n (ls' := [some (.long x9), none]) rfl dJ13_bitCount_95d88_47 (Nat.le_of_ble_eq_true rfl) rfl ?_
  refine r_lload_n rfl dJ13_bitCount_95d88_48 rfl ?_
  refine r_lload_n rfl dJ13_bitCount_95d88_49 rfl ?_
  refine r_bipush (v := 32) rfl dJ13_bitCount_95d88_50 (by decide) ?_
  refine r_lushr rfl dJ13_bitCount_95d88_52 ?_
  refine r_ladd rfl dJ13_bitCount_95d88_53 ?_
  refine r_topl (fun x11 e12 => ?_)
  refine r_lstore_n (ls' := [some (.long x11), none]) rfl dJ13_bitCount_95d88_54 (Nat.le_of_ble_eq_true rfl) rfl ?_
  refine r_lload_n rfl dJ13_bitCount_95d88_55 rfl ?_
  refine r_l2i rfl dJ13_bitCount_95d88_56 ?_
  refine r_bipush (v := 127) rfl dJ13_bitCount_95d88_57 (by decide) ?_
  refine r_iand rfl dJ13_bitCount_95d88_59 ?_
  subst e12
  subst e10
  subst e8
  subst e6
  subst e4
  subst e2
  exact r_ret dJ13_bitCount_95d88_60 (rt_i rfl) ⟨rfl, rfl, rfl⟩
set_option maxRecDepth 20000 in
theorem s_X10_wipe {xs : Nat → Int32} {L d sz : Nat} {h : ev_H} {a q : Nat} {t : Nat → Int64} {x0 x1 x2 x3 : Int64} (hw : isWS h sz a q t x0 x1 x2 x3) : EV xs L (d + 0) 0 0 M_X10_wipe sz h 0 [some (.ref a), none] [] (fun sz' h' r => sz' = sz ∧ h' = va_up h q (.inl (1, 4, .inr (.inl (ws4 t 0 0 0 0)))) ∧ r = []) := by
  obtain ⟨ba, bq, f1, f2⟩ := hw
  refine r_iconst (v := 0) rfl dX10_wipe_0 (by decide) ?_
  refine r_istore_n (ls' := [some (.ref a), some (.int 0)]) rfl dX10_wipe_1 (Nat.le_of_ble_eq_true rfl) rfl ?_
  refine r_iload_n rfl dX10_wipe_2 rfl ?_
  refine r_iconst (v := 4) rfl dX10_wipe_3 (by decide) ?_
  refine r_icmp_ge (tgt := 20) rfl rfl dX10_wipe_4 (fun c => absurd c (by decide)) (fun _ => ?_)
  refine r_aload_n rfl dX10_wipe_7 rfl ?_
  refine r_getv 0 rfl dX10_wipe_8 ba f1 fl_X10_9 rfl ?_
  refine r_iload_n rfl dX10_wipe_11 rfl ?_
  refine r_lconst (v := 0) rfl dX10_wipe_12 (by decide) ?_
  refine r_lastv (jn := 0) (f' := ws4 t 0 x1 x2 x3) rfl dX10_wipe_13 bq f2 (by unfold vp_in; decide) rfl (ws4_u0 _ _ _ _ _ _) (fun h51 eh52 => ?_)
  have f53 : h51 q = .inl (1, 4, .inr (.inl (ws4 t 0 x1 x2 x3))) := by rw [eh52]; exact va_up_self _ _ _
  have f54 : h51 a = .inr (10, [.ref q]) := by rw [eh52, va_up_ne _ _ (fun q => by rw [q, f2] at f1; cases f1)]; exact f1
  refine r_iinc (y := 1) (ls' := [some (.ref a), some (.int 1)]) rfl dX10_wipe_14 rfl (by decide) (Nat.le_of_ble_eq_true rfl) rfl ?_
  refine r_goto (pc' := 2) rfl dX10_wipe_17 ?_
  refine r_iload_n rfl dX10_wipe_2 rfl ?_
  refine r_iconst (v := 4) rfl dX10_wipe_3 (by decide) ?_
  refine r_icmp_ge (tgt := 20) rfl rfl dX10_wipe_4 (fun c => absurd c (by decide)) (fun _ => ?_)
  refine r_aload_n rfl dX10_wipe_7 rfl ?_
  refine r_getv 0 rfl dX10_wipe_8 ba f54 fl_X10_9 rfl ?_
  refine r_iload_n rfl dX10_wipe_11 rfl ?_
  refine r_lconst (v := 0) rfl dX10_wipe_12 (by decide) ?_
  refine r_lastv (jn := 1) (f' := ws4 t 0 0 x2 x3) rfl dX10_wipe_13 bq f53 (by unfold vp_in; decide) rfl (ws4_u1 _ _ _ _ _ _) (fun h55 eh56 => ?_)
  have f57 : h55 q = .inl (1, 4, .inr (.inl (ws4 t 0 0 x2 x3))) := by rw [eh56]; exact va_up_self _ _ _
  have f58 : h55 a = .inr (10, [.ref q]) := by rw [eh56, va_up_ne _ _ (fun q => by rw [q, f53] at f54; cases f54)]; exact f54
  refine r_iinc (y := 2) (ls' := [some (.ref a), some (.int 2)]) rfl dX10_wipe_14 rfl (by decide) (Nat.le_of_ble_eq_true rfl) rfl ?_
  refine r_goto (pc' := 2) rfl dX10_wipe_17 ?_
  refine r_iload_n rfl dX10_wipe_2 rfl ?_
  refine r_iconst (v := 4) rfl dX10_wipe_3 (by decide) ?_
  refine r_icmp_ge (tgt := 20) rfl rfl dX10_wipe_4 (fun c => absurd c (by decide)) (fun _ => ?_)
  refine r_aload_n rfl dX10_wipe_7 rfl ?_
  refine r_getv 0 rfl dX10_wipe_8 ba f58 fl_X10_9 rfl ?_
  refine r_iload_n rfl dX10_wipe_11 rfl ?_
  refine r_lconst (v := 0) rfl dX10_wipe_12 (by decide) ?_
  refine r_lastv (jn := 2) (f' := ws4 t 0 0 0 x3) rfl dX10_wipe_13 bq f57 (by unfold vp_in; decide) rfl (ws4_u2 _ _ _ _ _ _) (fun h59 eh60 => ?_)
  have f61 : h59 q = .inl (1, 4, .inr (.inl (ws4 t 0 0 0 x3))) := by rw [eh60]; exact va_up_self _ _ _
  have f62 : h59 a = .inr (10, [.ref q]) := by rw [eh60, va_up_ne _ _ (fun q => by rw [q, f57] at f58; cases f58)]; exact f58
  refine r_iinc (y := 3) (ls' := [some (.ref a), some (.int 3)]) rfl dX10_wipe_14 rfl (by decide) (Nat.le_of_ble_eq_true rfl) rfl ?_
  refine r_goto (pc' := 2) rfl dX10_wipe_17 ?_
  refine r_iload_n rfl dX10_wipe_2 rfl ?_
  refine r_iconst (v := 4) rfl dX10_wipe_3 (by decide) ?_
  refine r_icmp_ge (tgt := 20) rfl rfl dX10_wipe_4 (fun c => absurd c (by decide)) (fun _ => ?_)
  refine r_aload_n rfl dX10_wipe_7 rfl ?_
  refine r_getv 0 rfl dX10_wipe_8 ba f62 fl_X10_9 rfl ?_
  refine r_iload_n rfl dX10_wipe_11 rfl ?_
  refine r_lconst (v := 0) rfl dX10_wipe_12 (by decide) ?_
  refine r_lastv (jn := 3) (f' := ws4 t 0 0 0 0) rfl dX10_wipe_13 bq f61 (by unfold vp_in; decide) rfl (ws4_u3 _ _ _ _ _ _) (fun h63 eh64 => ?_)
  have f65 : h63 q = .inl (1, 4, .inr (.inl (ws4 t 0 0 0 0))) := by rw [eh64]; exact va_up_self _ _ _
  have f66 : h63 a = .inr (10, [.ref q]) := by rw [eh64, va_up_ne _ _ (fun q => by rw [q, f61] at f62; cases f62)]; exact f62
  refine r_iinc (y := 4) (ls' := [some (.ref a), some (.int 4)]) rfl dX10_wipe_14 rfl (by decide) (Nat.le_of_ble_eq_true rfl) rfl ?_
  refine r_goto (pc' := 2) rfl dX10_wipe_17 ?_
  refine r_iload_n rfl dX10_wipe_2 rfl ?_
  refine r_iconst (v := 4) rfl dX10_wipe_3 (by decide) ?_
  refine r_icmp_ge (tgt := 20) rfl rfl dX10_wipe_4 (fun _ => ?_) (fun c => absurd c (by decide))
  subst eh64
  subst eh60
  subst eh56
  subst eh52
  exact r_ret dX10_wipe_20 (rt_v rfl) ⟨rfl, (by simp only [va_up_up]), rfl⟩
set_option maxRecDepth 20000 in
theorem s_X10_turn {xs : Nat → Int32} {L d sz : Nat} {h : ev_H} {a q : Nat} {t : Nat → Int64} {x0 x1 x2 x3 : Int64} (hw : isWS h sz a q t x0 x1 x2 x3) : EV xs L (d + 0) 0 0 M_X10_turn sz h 0 [some (.ref a), none] [] (fun sz' h' r => sz' = sz ∧ h' = va_up h q (.inl (1, 4, .inr (.inl (ws4 t (x0 ^^^ (-1)) (x1 ^^^ (-1)) (x2 ^^^ (-1)) (x3 ^^^ (-1)))))) ∧ r = []) := by
  obtain ⟨ba, bq, f1, f2⟩ := hw
  refine r_iconst (v := 0) rfl dX10_turn_0 (by decide) ?_
  refine r_istore_n (ls' := [some (.ref a), some (.int 0)]) rfl dX10_turn_1 (Nat.le_of_ble_eq_true rfl) rfl ?_
  refine r_iload_n rfl dX10_turn_2 rfl ?_
  refine r_iconst (v := 4) rfl dX10_turn_3 (by decide) ?_
  refine r_icmp_ge (tgt := 29) rfl rfl dX10_turn_4 (fun c => absurd c (by decide)) (fun _ => ?_)
  refine r_aload_n rfl dX10_turn_7 rfl ?_
  refine r_getv 0 rfl dX10_turn_8 ba f1 fl_X10_9 rfl ?_
  refine r_iload_n rfl dX10_turn_11 rfl ?_
  refine r_aload_n rfl dX10_turn_12 rfl ?_
  refine r_getv 0 rfl dX10_turn_13 ba f1 fl_X10_9 rfl ?_
  refine r_iload_n rfl dX10_turn_16 rfl ?_
  refine r_laldv (jn := 0) (v := x0) rfl dX10_turn_17 bq f2 (by unfold vp_in; decide) rfl rfl ?_
  refine r_ldc2 (v := (-1)) rfl dX10_turn_18 lc_X10_18 ?_
  refine r_lxor rfl dX10_turn_21 ?_
  refine r_topl (fun x51 e52 => ?_)
  refine r_lastv (jn := 0) (f' := ws4 t x51 x1 x2 x3) rfl dX10_turn_22 bq f2 (by unfold vp_in; decide) rfl (ws4_u0 _ _ _ _ _ _) (fun h53 eh54 => ?_)
  have f55 : h53 q = .inl (1, 4, .inr (.inl (ws4 t x51 x1 x2 x3))) := by rw [eh54]; exact va_up_self _ _ _
  have f56 : h53 a = .inr (10, [.ref q]) := by rw [eh54, va_up_ne _ _ (fun q => by rw [q, f2] at f1; cases f1)]; exact f1
  refine r_iinc (y := 1) (ls' := [some (.ref a), some (.int 1)]) rfl dX10_turn_23 rfl (by decide) (Nat.le_of_ble_eq_true rfl) rfl ?_
  refine r_goto (pc' := 2) rfl dX10_turn_26 ?_
  refine r_iload_n rfl dX10_turn_2 rfl ?_
  refine r_iconst (v := 4) rfl dX10_turn_3 (by decide) ?_
  refine r_icmp_ge (tgt := 29) rfl rfl dX10_turn_4 (fun c => absurd c (by decide)) (fun _ => ?_)
  refine r_aload_n rfl dX10_turn_7 rfl ?_
  refine r_getv 0 rfl dX10_turn_8 ba f56 fl_X10_9 rfl ?_
  refine r_iload_n rfl dX10_turn_11 rfl ?_
  refine r_aload_n rfl dX10_turn_12 rfl ?_
  refine r_getv 0 rfl dX10_turn_13 ba f56 fl_X10_9 rfl ?_
  refine r_iload_n rfl dX10_turn_16 rfl ?_
  refine r_laldv (jn := 1) (v := x1) rfl dX10_turn_17 bq f55 (by unfold vp_in; decide) rfl rfl ?_
  refine r_ldc2 (v := (-1)) rfl dX10_turn_18 lc_X10_18 ?_
  refine r_lxor rfl dX10_turn_21 ?_
  refine r_topl (fun x57 e58 => ?_)
  refine r_lastv (jn := 1) (f' := ws4 t x51 x57 x2 x3) rfl dX10_turn_22 bq f55 (by unfold vp_in; decide) rfl (ws4_u1 _ _ _ _ _ _) (fun h59 eh60 => ?_)
  have f61 : h59 q = .inl (1, 4, .inr (.inl (ws4 t x51 x57 x2 x3))) := by rw [eh60]; exact va_up_self _ _ _
  have f62 : h59 a = .inr (10, [.ref q]) := by rw [eh60, va_up_ne _ _ (fun q => by rw [q, f55] at f56; cases f56)]; exact f56
  refine r_iinc (y := 2) (ls' := [some (.ref a), some (.int 2)]) rfl dX10_turn_23 rfl (by decide) (Nat.le_of_ble_eq_true rfl) rfl ?_
  refine r_goto (pc' := 2) rfl dX10_turn_26 ?_
  refine r_iload_n rfl dX10_turn_2 rfl ?_
  refine r_iconst (v := 4) rfl dX10_turn_3 (by decide) ?_
  refine r_icmp_ge (tgt := 29) rfl rfl dX10_turn_4 (fun c => absurd c (by decide)) (fun _ => ?_)
  refine r_aload_n rfl dX10_turn_7 rfl ?_
  refine r_getv 0 rfl dX10_turn_8 ba f62 fl_X10_9 rfl ?_
  refine r_iload_n rfl dX10_turn_11 rfl ?_
  refine r_aload_n rfl dX10_turn_12 rfl ?_
  refine r_getv 0 rfl dX10_turn_13 ba f62 fl_X10_9 rfl ?_
  refine r_iload_n rfl dX10_turn_16 rfl ?_
  refine r_laldv (jn := 2) (v := x2) rfl dX10_turn_17 bq f61 (by unfold vp_in; decide) rfl rfl ?_
  refine r_ldc2 (v := (-1)) rfl dX10_turn_18 lc_X10_18 ?_
  refine r_lxor rfl dX10_turn_21 ?_
  refine r_topl (fun x63 e64 => ?_)
  refine r_lastv (jn := 2) (f' := ws4 t x51 x57 x63 x3) rfl dX10_turn_22 bq f61 (by unfold vp_in; decide) rfl (ws4_u2 _ _ _ _ _ _) (fun h65 eh66 => ?_)
  have f67 : h65 q = .inl (1, 4, .inr (.inl (ws4 t x51 x57 x63 x3))) := by rw [eh66]; exact va_up_self _ _ _
  have f68 : h65 a = .inr (10, [.ref q]) := by rw [eh66, va_up_ne _ _ (fun q => by rw [q, f61] at f62; cases f62)]; exact f62
  refine r_iinc (y := 3) (ls' := [some (.ref a), some (.int 3)]) rfl dX10_turn_23 rfl (by decide) (Nat.le_of_ble_eq_true rfl) rfl ?_
  refine r_goto (pc' := 2) rfl dX10_turn_26 ?_
  refine r_iload_n rfl dX10_turn_2 rfl ?_
  refine r_iconst (v := 4) rfl dX10_turn_3 (by decide) ?_
  refine r_icmp_ge (tgt := 29) rfl rfl dX10_turn_4 (fun c => absurd c (by decide)) (fun _ => ?_)
  refine r_aload_n rfl dX10_turn_7 rfl ?_
  refine r_getv 0 rfl dX10_turn_8 ba f68 fl_X10_9 rfl ?_
  refine r_iload_n rfl dX10_turn_11 rfl ?_
  refine r_aload_n rfl dX10_turn_12 rfl ?_
  refine r_getv 0 rfl dX10_turn_13 ba f68 fl_X10_9 rfl ?_
  refine r_iload_n rfl dX10_turn_16 rfl ?_
  refine r_laldv (jn := 3) (v := x3) rfl dX10_turn_17 bq f67 (by unfold vp_in; decide) rfl rfl ?_
  refine r_ldc2 (v := (-1)) rfl dX10_turn_18 lc_X10_18 ?_
  refine r_lxor rfl dX10_turn_21 ?_
  refine r_topl (fun x69 e70 => ?_)
  refine r_lastv (jn := 3) (f' := ws4 t x51 x57 x63 x69) rfl dX10_turn_22 bq f67 (by unfold vp_in; decide) rfl (ws4_u3 _ _ _ _ _ _) (fun h71 eh72 => ?_)
  have f73 : h71 q = .inl (1, 4, .inr (.inl (ws4 t x51 x57 x63 x69))) := by rw [eh72]; exact va_up_self _ _ _
  have f74 : h71 a = .inr (10, [.ref q]) := by rw [eh72, va_up_ne _ _ (fun q => by rw [q, f67] at f68; cases f68)]; exact f68
  refine r_iinc (y := 4) (ls' := [some (.ref a), some (.int 4)]) rfl dX10_turn_23 rfl (by decide) (Nat.le_of_ble_eq_true rfl) rfl ?_
  refine r_goto (pc' := 2) rfl dX10_turn_26 ?_
  refine r_iload_n rfl dX10_turn_2 rfl ?_
  refine r_iconst (v := 4) rfl dX10_turn_3 (by decide) ?_
  refine r_icmp_ge (tgt := 29) rfl rfl dX10_turn_4 (fun _ => ?_) (fun c => absurd c (by decide))
  subst e70
  subst e64
  subst e58
  subst e52
  subst eh72
  subst eh66
  subst eh60
  subst eh54
  exact r_ret dX10_turn_29 (rt_v rfl) ⟨rfl, (by simp only [va_up_up]), rfl⟩
set_option maxRecDepth 20000 in
theorem s_X10_fill {xs : Nat → Int32} {L d sz : Nat} {h : ev_H} {a q : Nat} {t : Nat → Int64} {x0 x1 x2 x3 : Int64} (hw : isWS h sz a q t x0 x1 x2 x3) : EV xs L (d + 1) 0 0 M_X10_fill sz h 0 [some (.ref a)] [] (fun sz' h' r => sz' = sz ∧ h' = va_up h q (.inl (1, 4, .inr (.inl (ws4 t (-1) (-1) (-1) (-1))))) ∧ r = []) := by
  obtain ⟨ba, bq, f1, f2⟩ := hw
  refine r_aload_n rfl dX10_fill_0 rfl ?_
  refine cl_X10_38 rfl rfl dX10_fill_1 ba.1 ba.2 f1 (Nat.le_of_ble_eq_true rfl) (s_X10_wipe ⟨ba, bq, f1, f2⟩) ?_
  rintro _ h51 _ ⟨rfl, eh52, rfl⟩
  have f53 : h51 q = .inl (1, 4, .inr (.inl (ws4 t 0 0 0 0))) := by rw [eh52]; exact va_up_self _ _ _
  have f54 : h51 a = .inr (10, [.ref q]) := by rw [eh52, va_up_ne _ _ (fun q => by rw [q, f2] at f1; cases f1)]; exact f1
  refine r_aload_n rfl dX10_fill_4 rfl ?_
  refine cl_X10_41 rfl rfl dX10_fill_5 ba.1 ba.2 f54 (Nat.le_of_ble_eq_true rfl) (s_X10_turn ⟨ba, bq, f54, f53⟩) ?_
  rintro _ h55 _ ⟨rfl, eh56, rfl⟩
  have f57 : h55 q = .inl (1, 4, .inr (.inl (ws4 t (0 ^^^ (-1)) (0 ^^^ (-1)) (0 ^^^ (-1)) (0 ^^^ (-1))))) := by rw [eh56]; exact va_up_self _ _ _
  have f58 : h55 a = .inr (10, [.ref q]) := by rw [eh56, va_up_ne _ _ (fun q => by rw [q, f53] at f54; cases f54)]; exact f54
  subst eh56
  subst eh52
  exact r_ret dX10_fill_8 (rt_v rfl) ⟨rfl, (by simp only [va_up_up]; rfl), rfl⟩
set_option maxRecDepth 20000 in
theorem s_X10_become {xs : Nat → Int32} {L d sz : Nat} {h : ev_H} {a q b q2 : Nat} {t t2 : Nat → Int64} {x0 x1 x2 x3 y0 y1 y2 y3 : Int64} (hw : isWS h sz a q t x0 x1 x2 x3) (hw2 : isWS h sz b q2 t2 y0 y1 y2 y3) (hne : q2 ≠ q) : EV xs L (d + 0) 0 0 M_X10_become sz h 0 [some (.ref a), some (.ref b), none] [] (fun sz' h' r => sz' = sz ∧ h' = va_up h q (.inl (1, 4, .inr (.inl (ws4 t y0 y1 y2 y3)))) ∧ r = []) := by
  obtain ⟨ba, bq, f1, f2⟩ := hw
  obtain ⟨bb, bq2, f3, f4⟩ := hw2
  refine r_iconst (v := 0) rfl dX10_become_0 (by decide) ?_
  refine r_istore_n (ls' := [some (.ref a), some (.ref b), some (.int 0)]) rfl dX10_become_1 (Nat.le_of_ble_eq_true rfl) rfl ?_
  refine r_iload_n rfl dX10_become_2 rfl ?_
  refine r_iconst (v := 4) rfl dX10_become_3 (by decide) ?_
  refine r_icmp_ge (tgt := 25) rfl rfl dX10_become_4 (fun c => absurd c (by decide)) (fun _ => ?_)
  refine r_aload_n rfl dX10_become_7 rfl ?_
  refine r_getv 0 rfl dX10_become_8 ba f1 fl_X10_9 rfl ?_
  refine r_iload_n rfl dX10_become_11 rfl ?_
  refine r_aload_n rfl dX10_become_12 rfl ?_
  refine r_getv 0 rfl dX10_become_13 bb f3 fl_X10_9 rfl ?_
  refine r_iload_n rfl dX10_become_16 rfl ?_
  refine r_laldv (jn := 0) (v := y0) rfl dX10_become_17 bq2 f4 (by unfold vp_in; decide) rfl rfl ?_
  refine r_lastv (jn := 0) (f' := ws4 t y0 x1 x2 x3) rfl dX10_become_18 bq f2 (by unfold vp_in; decide) rfl (ws4_u0 _ _ _ _ _ _) (fun h51 eh52 => ?_)
  have f53 : h51 q = .inl (1, 4, .inr (.inl (ws4 t y0 x1 x2 x3))) := by rw [eh52]; exact va_up_self _ _ _
  have f54 : h51 a = .inr (10, [.ref q]) := by rw [eh52, va_up_ne _ _ (fun q => by rw [q, f2] at f1; cases f1)]; exact f1
  have f55 : h51 b = .inr (10, [.ref q2]) := by rw [eh52, va_up_ne _ _ (fun q => by rw [q, f2] at f3; cases f3)]; exact f3
  have f56 : h51 q2 = .inl (1, 4, .inr (.inl (ws4 t2 y0 y1 y2 y3))) := by rw [eh52, va_up_ne _ _ hne]; exact f4
  refine r_iinc (y := 1) (ls' := [some (.ref a), some (.ref b), some (.int 1)]) rfl dX10_become_19 rfl (by decide) (Nat.le_of_ble_eq_true rfl) rfl ?_
  refine r_goto (pc' := 2) rfl dX10_become_22 ?_
  refine r_iload_n rfl dX10_become_2 rfl ?_
  refine r_iconst (v := 4) rfl dX10_become_3 (by decide) ?_
  refine r_icmp_ge (tgt := 25) rfl rfl dX10_become_4 (fun c => absurd c (by decide)) (fun _ => ?_)
  refine r_aload_n rfl dX10_become_7 rfl ?_
  refine r_getv 0 rfl dX10_become_8 ba f54 fl_X10_9 rfl ?_
  refine r_iload_n rfl dX10_become_11 rfl ?_
  refine r_aload_n rfl dX10_become_12 rfl ?_
  refine r_getv 0 rfl dX10_become_13 bb f55 fl_X10_9 rfl ?_
  refine r_iload_n rfl dX10_become_16 rfl ?_
  refine r_laldv (jn := 1) (v := y1) rfl dX10_become_17 bq2 f56 (by unfold vp_in; decide) rfl rfl ?_
  refine r_lastv (jn := 1) (f' := ws4 t y0 y1 x2 x3) rfl dX10_become_18 bq f53 (by unfold vp_in; decide) rfl (ws4_u1 _ _ _ _ _ _) (fun h57 eh58 => ?_)
  have f59 : h57 q = .inl (1, 4, .inr (.inl (ws4 t y0 y1 x2 x3))) := by rw [eh58]; exact va_up_self _ _ _
  have f60 : h57 a = .inr (10, [.ref q]) := by rw [eh58, va_up_ne _ _ (fun q => by rw [q, f53] at f54; cases f54)]; exact f54
  have f61 : h57 b = .inr (10, [.ref q2]) := by rw [eh58, va_up_ne _ _ (fun q => by rw [q, f53] at f55; cases f55)]; exact f55
  have f62 : h57 q2 = .inl (1, 4, .inr (.inl (ws4 t2 y0 y1 y2 y3))) := by rw [eh58, va_up_ne _ _ hne]; exact f56
  refine r_iinc (y := 2) (ls' := [some (.ref a), some (.ref b), some (.int 2)]) rfl dX10_become_19 rfl (by decide) (Nat.le_of_ble_eq_true rfl) rfl ?_
  refine r_goto (pc' := 2) rfl dX10_become_22 ?_
  refine r_iload_n rfl dX10_become_2 rfl ?_
  refine r_iconst (v := 4) rfl dX10_become_3 (by decide) ?_
  refine r_icmp_ge (tgt := 25) rfl rfl dX10_become_4 (fun c => absurd c (by decide)) (fun _ => ?_)
  refine r_aload_n rfl dX10_become_7 rfl ?_
  refine r_getv 0 rfl dX10_become_8 ba f60 fl_X10_9 rfl ?_
  refine r_iload_n rfl dX10_become_11 rfl ?_
  refine r_aload_n rfl dX10_become_12 rfl ?_
  refine r_getv 0 rfl dX10_become_13 bb f61 fl_X10_9 rfl ?_
  refine r_iload_n rfl dX10_become_16 rfl ?_
  refine r_laldv (jn := 2) (v := y2) rfl dX10_become_17 bq2 f62 (by unfold vp_in; decide) rfl rfl ?_
  refine r_lastv (jn := 2) (f' := ws4 t y0 y1 y2 x3) rfl dX10_become_18 bq f59 (by unfold vp_in; decide) rfl (ws4_u2 _ _ _ _ _ _) (fun h63 eh64 => ?_)
  have f65 : h63 q = .inl (1, 4, .inr (.inl (ws4 t y0 y1 y2 x3))) := by rw [eh64]; exact va_up_self _ _ _
  have f66 : h63 a = .inr (10, [.ref q]) := by rw [eh64, va_up_ne _ _ (fun q => by rw [q, f59] at f60; cases f60)]; exact f60
  have f67 : h63 b = .inr (10, [.ref q2]) := by rw [eh64, va_up_ne _ _ (fun q => by rw [q, f59] at f61; cases f61)]; exact f61
  have f68 : h63 q2 = .inl (1, 4, .inr (.inl (ws4 t2 y0 y1 y2 y3))) := by rw [eh64, va_up_ne _ _ hne]; exact f62
  refine r_iinc (y := 3) (ls' := [some (.ref a), some (.ref b), some (.int 3)]) rfl dX10_become_19 rfl (by decide) (Nat.le_of_ble_eq_true rfl) rfl ?_
  refine r_goto (pc' := 2) rfl dX10_become_22 ?_
  refine r_iload_n rfl dX10_become_2 rfl ?_
  refine r_iconst (v := 4) rfl dX10_become_3 (by decide) ?_
  refine r_icmp_ge (tgt := 25) rfl rfl dX10_become_4 (fun c => absurd c (by decide)) (fun _ => ?_)
  refine r_aload_n rfl dX10_become_7 rfl ?_
  refine r_getv 0 rfl dX10_become_8 ba f66 fl_X10_9 rfl ?_
  refine r_iload_n rfl dX10_become_11 rfl ?_
  refine r_aload_n rfl dX10_become_12 rfl ?_
  refine r_getv 0 rfl dX10_become_13 bb f67 fl_X10_9 rfl ?_
  refine r_iload_n rfl dX10_become_16 rfl ?_
  refine r_laldv (jn := 3) (v := y3) rfl dX10_become_17 bq2 f68 (by unfold vp_in; decide) rfl rfl ?_
  refine r_lastv (jn := 3) (f' := ws4 t y0 y1 y2 y3) rfl dX10_become_18 bq f65 (by unfold vp_in; decide) rfl (ws4_u3 _ _ _ _ _ _) (fun h69 eh70 => ?_)
  have f71 : h69 q = .inl (1, 4, .inr (.inl (ws4 t y0 y1 y2 y3))) := by rw [eh70]; exact va_up_self _ _ _
  have f72 : h69 a = .inr (10, [.ref q]) := by rw [eh70, va_up_ne _ _ (fun q => by rw [q, f65] at f66; cases f66)]; exact f66
  have f73 : h69 b = .inr (10, [.ref q2]) := by rw [eh70, va_up_ne _ _ (fun q => by rw [q, f65] at f67; cases f67)]; exact f67
  have f74 : h69 q2 = .inl (1, 4, .inr (.inl (ws4 t2 y0 y1 y2 y3))) := by rw [eh70, va_up_ne _ _ hne]; exact f68
  refine r_iinc (y := 4) (ls' := [some (.ref a), some (.ref b), some (.int 4)]) rfl dX10_become_19 rfl (by decide) (Nat.le_of_ble_eq_true rfl) rfl ?_
  refine r_goto (pc' := 2) rfl dX10_become_22 ?_
  refine r_iload_n rfl dX10_become_2 rfl ?_
  refine r_iconst (v := 4) rfl dX10_become_3 (by decide) ?_
  refine r_icmp_ge (tgt := 25) rfl rfl dX10_become_4 (fun _ => ?_) (fun c => absurd c (by decide))
  subst eh70
  subst eh64
  subst eh58
  subst eh52
  exact r_ret dX10_become_25 (rt_v rfl) ⟨rfl, (by simp only [va_up_up]), rfl⟩
set_option maxRecDepth 20000 in
theorem s_X10_join {xs : Nat → Int32} {L d sz : Nat} {h : ev_H} {a q b q2 : Nat} {t t2 : Nat → Int64} {x0 x1 x2 x3 y0 y1 y2 y3 : Int64} (hw : isWS h sz a q t x0 x1 x2 x3) (hw2 : isWS h sz b q2 t2 y0 y1 y2 y3) (hne : q2 ≠ q) : EV xs L (d + 0) 0 0 M_X10_join sz h 0 [some (.ref a), some (.ref b), none] [] (fun sz' h' r => sz' = sz ∧ h' = va_up h q (.inl (1, 4, .inr (.inl (ws4 t (x0 ||| y0) (x1 ||| y1) (x2 ||| y2) (x3 ||| y3))))) ∧ r = []) := by
  obtain ⟨ba, bq, f1, f2⟩ := hw
  obtain ⟨bb, bq2, f3, f4⟩ := hw2
  refine r_iconst (v := 0) rfl dX10_join_0 (by decide) ?_
  refine r_istore_n (ls' := [some (.ref a), some (.ref b), some (.int 0)]) rfl dX10_join_1 (Nat.le_of_ble_eq_true rfl) rfl ?_
  refine r_iload_n rfl dX10_join_2 rfl ?_
  refine r_iconst (v := 4) rfl dX10_join_3 (by decide) ?_
  refine r_icmp_ge (tgt := 28) rfl rfl dX10_join_4 (fun c => absurd c (by decide)) (fun _ => ?_)
  refine r_aload_n rfl dX10_join_7 rfl ?_
  refine r_getv 0 rfl dX10_join_8 ba f1 fl_X10_9 rfl ?_
  refine r_iload_n rfl dX10_join_11 rfl ?_
  refine r_dup2 rfl dX10_join_12 (by intro q; cases q) (by intro q; cases q) ?_
  refine r_laldv (jn := 0) (v := x0) rfl dX10_join_13 bq f2 (by unfold vp_in; decide) rfl rfl ?_
  refine r_aload_n rfl dX10_join_14 rfl ?_
  refine r_getv 0 rfl dX10_join_15 bb f3 fl_X10_9 rfl ?_
  refine r_iload_n rfl dX10_join_18 rfl ?_
  refine r_laldv (jn := 0) (v := y0) rfl dX10_join_19 bq2 f4 (by unfold vp_in; decide) rfl rfl ?_
  refine r_lor rfl dX10_join_20 ?_
  refine r_topl (fun x51 e52 => ?_)
  refine r_lastv (jn := 0) (f' := ws4 t x51 x1 x2 x3) rfl dX10_join_21 bq f2 (by unfold vp_in; decide) rfl (ws4_u0 _ _ _ _ _ _) (fun h53 eh54 => ?_)
  have f55 : h53 q = .inl (1, 4, .inr (.inl (ws4 t x51 x1 x2 x3))) := by rw [eh54]; exact va_up_self _ _ _
  have f56 : h53 a = .inr (10, [.ref q]) := by rw [eh54, va_up_ne _ _ (fun q => by rw [q, f2] at f1; cases f1)]; exact f1
  have f57 : h53 b = .inr (10, [.ref q2]) := by rw [eh54, va_up_ne _ _ (fun q => by rw [q, f2] at f3; cases f3)]; exact f3
  have f58 : h53 q2 = .inl (1, 4, .inr (.inl (ws4 t2 y0 y1 y2 y3))) := by rw [eh54, va_up_ne _ _ hne]; exact f4
  refine r_iinc (y := 1) (ls' := [some (.ref a), some (.ref b), some (.int 1)]) rfl dX10_join_22 rfl (by decide) (Nat.le_of_ble_eq_true rfl) rfl ?_
  refine r_goto (pc' := 2) rfl dX10_join_25 ?_
  refine r_iload_n rfl dX10_join_2 rfl ?_
  refine r_iconst (v := 4) rfl dX10_join_3 (by decide) ?_
  refine r_icmp_ge (tgt := 28) rfl rfl dX10_join_4 (fun c => absurd c (by decide)) (fun _ => ?_)
  refine r_aload_n rfl dX10_join_7 rfl ?_
  refine r_getv 0 rfl dX10_join_8 ba f56 fl_X10_9 rfl ?_
  refine r_iload_n rfl dX10_join_11 rfl ?_
  refine r_dup2 rfl dX10_join_12 (by intro q; cases q) (by intro q; cases q) ?_
  refine r_laldv (jn := 1) (v := x1) rfl dX10_join_13 bq f55 (by unfold vp_in; decide) rfl rfl ?_
  refine r_aload_n rfl dX10_join_14 rfl ?_
  refine r_getv 0 rfl dX10_join_15 bb f57 fl_X10_9 rfl ?_
  refine r_iload_n rfl dX10_join_18 rfl ?_
  refine r_laldv (jn := 1) (v := y1) rfl dX10_join_19 bq2 f58 (by unfold vp_in; decide) rfl rfl ?_
  refine r_lor rfl dX10_join_20 ?_
  refine r_topl (fun x59 e60 => ?_)
  refine r_lastv (jn := 1) (f' := ws4 t x51 x59 x2 x3) rfl dX10_join_21 bq f55 (by unfold vp_in; decide) rfl (ws4_u1 _ _ _ _ _ _) (fun h61 eh62 => ?_)
  have f63 : h61 q = .inl (1, 4, .inr (.inl (ws4 t x51 x59 x2 x3))) := by rw [eh62]; exact va_up_self _ _ _
  have f64 : h61 a = .inr (10, [.ref q]) := by rw [eh62, va_up_ne _ _ (fun q => by rw [q, f55] at f56; cases f56)]; exact f56
  have f65 : h61 b = .inr (10, [.ref q2]) := by rw [eh62, va_up_ne _ _ (fun q => by rw [q, f55] at f57; cases f57)]; exact f57
  have f66 : h61 q2 = .inl (1, 4, .inr (.inl (ws4 t2 y0 y1 y2 y3))) := by rw [eh62, va_up_ne _ _ hne]; exact f58
  refine r_iinc (y := 2) (ls' := [some (.ref a), some (.ref b), some (.int 2)]) rfl dX10_join_22 rfl (by decide) (Nat.le_of_ble_eq_true rfl) rfl ?_
  refine r_goto (pc' := 2) rfl dX10_join_25 ?_
  refine r_iload_n rfl dX10_join_2 rfl ?_
  refine r_iconst (v := 4) rfl dX10_join_3 (by decide) ?_
  refine r_icmp_ge (tgt := 28) rfl rfl dX10_join_4 (fun c => absurd c (by decide)) (fun _ => ?_)
  refine r_aload_n rfl dX10_join_7 rfl ?_
  refine r_getv 0 rfl dX10_join_8 ba f64 fl_X10_9 rfl ?_
  refine r_iload_n rfl dX10_join_11 rfl ?_
  refine r_dup2 rfl dX10_join_12 (by intro q; cases q) (by intro q; cases q) ?_
  refine r_laldv (jn := 2) (v := x2) rfl dX10_join_13 bq f63 (by unfold vp_in; decide) rfl rfl ?_
  refine r_aload_n rfl dX10_join_14 rfl ?_
  refine r_getv 0 rfl dX10_join_15 bb f65 fl_X10_9 rfl ?_
  refine r_iload_n rfl dX10_join_18 rfl ?_
  refine r_laldv (jn := 2) (v := y2) rfl dX10_join_19 bq2 f66 (by unfold vp_in; decide) rfl rfl ?_
  refine r_lor rfl dX10_join_20 ?_
  refine r_topl (fun x67 e68 => ?_)
  refine r_lastv (jn := 2) (f' := ws4 t x51 x59 x67 x3) rfl dX10_join_21 bq f63 (by unfold vp_in; decide) rfl (ws4_u2 _ _ _ _ _ _) (fun h69 eh70 => ?_)
  have f71 : h69 q = .inl (1, 4, .inr (.inl (ws4 t x51 x59 x67 x3))) := by rw [eh70]; exact va_up_self _ _ _
  have f72 : h69 a = .inr (10, [.ref q]) := by rw [eh70, va_up_ne _ _ (fun q => by rw [q, f63] at f64; cases f64)]; exact f64
  have f73 : h69 b = .inr (10, [.ref q2]) := by rw [eh70, va_up_ne _ _ (fun q => by rw [q, f63] at f65; cases f65)]; exact f65
  have f74 : h69 q2 = .inl (1, 4, .inr (.inl (ws4 t2 y0 y1 y2 y3))) := by rw [eh70, va_up_ne _ _ hne]; exact f66
  refine r_iinc (y := 3) (ls' := [some (.ref a), some (.ref b), some (.int 3)]) rfl dX10_join_22 rfl (by decide) (Nat.le_of_ble_eq_true rfl) rfl ?_
  refine r_goto (pc' := 2) rfl dX10_join_25 ?_
  refine r_iload_n rfl dX10_join_2 rfl ?_
  refine r_iconst (v := 4) rfl dX10_join_3 (by decide) ?_
  refine r_icmp_ge (tgt := 28) rfl rfl dX10_join_4 (fun c => absurd c (by decide)) (fun _ => ?_)
  refine r_aload_n rfl dX10_join_7 rfl ?_
  refine r_getv 0 rfl dX10_join_8 ba f72 fl_X10_9 rfl ?_
  refine r_iload_n rfl dX10_join_11 rfl ?_
  refine r_dup2 rfl dX10_join_12 (by intro q; cases q) (by intro q; cases q) ?_
  refine r_laldv (jn := 3) (v := x3) rfl dX10_join_13 bq f71 (by unfold vp_in; decide) rfl rfl ?_
  refine r_aload_n rfl dX10_join_14 rfl ?_
  refine r_getv 0 rfl dX10_join_15 bb f73 fl_X10_9 rfl ?_
  refine r_iload_n rfl dX10_join_18 rfl ?_
  refine r_laldv (jn := 3) (v := y3) rfl dX10_join_19 bq2 f74 (by unfold vp_in; decide) rfl rfl ?_
  refine r_lor rfl dX10_join_20 ?_
  refine r_topl (fun x75 e76 => ?_)
  refine r_lastv (jn := 3) (f' := ws4 t x51 x59 x67 x75) rfl dX10_join_21 bq f71 (by unfold vp_in; decide) rfl (ws4_u3 _ _ _ _ _ _) (fun h77 eh78 => ?_)
  have f79 : h77 q = .inl (1, 4, .inr (.inl (ws4 t x51 x59 x67 x75))) := by rw [eh78]; exact va_up_self _ _ _
  have f80 : h77 a = .inr (10, [.ref q]) := by rw [eh78, va_up_ne _ _ (fun q => by rw [q, f71] at f72; cases f72)]; exact f72
  have f81 : h77 b = .inr (10, [.ref q2]) := by rw [eh78, va_up_ne _ _ (fun q => by rw [q, f71] at f73; cases f73)]; exact f73
  have f82 : h77 q2 = .inl (1, 4, .inr (.inl (ws4 t2 y0 y1 y2 y3))) := by rw [eh78, va_up_ne _ _ hne]; exact f74
  refine r_iinc (y := 4) (ls' := [some (.ref a), some (.ref b), some (.int 4)]) rfl dX10_join_22 rfl (by decide) (Nat.le_of_ble_eq_true rfl) rfl ?_
  refine r_goto (pc' := 2) rfl dX10_join_25 ?_
  refine r_iload_n rfl dX10_join_2 rfl ?_
  refine r_iconst (v := 4) rfl dX10_join_3 (by decide) ?_
  refine r_icmp_ge (tgt := 28) rfl rfl dX10_join_4 (fun _ => ?_) (fun c => absurd c (by decide))
  subst e76
  subst e68
  subst e60
  subst e52
  subst eh78
  subst eh70
  subst eh62
  subst eh54
  exact r_ret dX10_join_28 (rt_v rfl) ⟨rfl, (by simp only [va_up_up]), rfl⟩
set_option maxRecDepth 20000 in
theorem s_X10_meet {xs : Nat → Int32} {L d sz : Nat} {h : ev_H} {a q b q2 : Nat} {t t2 : Nat → Int64} {x0 x1 x2 x3 y0 y1 y2 y3 : Int64} (hw : isWS h sz a q t x0 x1 x2 x3) (hw2 : isWS h sz b q2 t2 y0 y1 y2 y3) (hne : q2 ≠ q) : EV xs L (d + 0) 0 0 M_X10_meet sz h 0 [some (.ref a), some (.ref b), none] [] (fun sz' h' r => sz' = sz ∧ h' = va_up h q (.inl (1, 4, .inr (.inl (ws4 t (x0 &&& y0) (x1 &&& y1) (x2 &&& y2) (x3 &&& y3))))) ∧ r = []) := by
  obtain ⟨ba, bq, f1, f2⟩ := hw
  obtain ⟨bb, bq2, f3, f4⟩ := hw2
  refine r_iconst (v := 0) rfl dX10_meet_0 (by decide) ?_
  refine r_istore_n (ls' := [some (.ref a), some (.ref b), some (.int 0)]) rfl dX10_meet_1 (Nat.le_of_ble_eq_true rfl) rfl ?_
  refine r_iload_n rfl dX10_meet_2 rfl ?_
  refine r_iconst (v := 4) rfl dX10_meet_3 (by decide) ?_
  refine r_icmp_ge (tgt := 28) rfl rfl dX10_meet_4 (fun c => absurd c (by decide)) (fun _ => ?_)
  refine r_aload_n rfl dX10_meet_7 rfl ?_
  refine r_getv 0 rfl dX10_meet_8 ba f1 fl_X10_9 rfl ?_
  refine r_iload_n rfl dX10_meet_11 rfl ?_
  refine r_dup2 rfl dX10_meet_12 (by intro q; cases q) (by intro q; cases q) ?_
  refine r_laldv (jn := 0) (v := x0) rfl dX10_meet_13 bq f2 (by unfold vp_in; decide) rfl rfl ?_
  refine r_aload_n rfl dX10_meet_14 rfl ?_
  refine r_getv 0 rfl dX10_meet_15 bb f3 fl_X10_9 rfl ?_
  refine r_iload_n rfl dX10_meet_18 rfl ?_
  refine r_laldv (jn := 0) (v := y0) rfl dX10_meet_19 bq2 f4 (by unfold vp_in; decide) rfl rfl ?_
  refine r_land rfl dX10_meet_20 ?_
  refine r_topl (fun x51 e52 => ?_)
  refine r_lastv (jn := 0) (f' := ws4 t x51 x1 x2 x3) rfl dX10_meet_21 bq f2 (by unfold vp_in; decide) rfl (ws4_u0 _ _ _ _ _ _) (fun h53 eh54 => ?_)
  have f55 : h53 q = .inl (1, 4, .inr (.inl (ws4 t x51 x1 x2 x3))) := by rw [eh54]; exact va_up_self _ _ _
  have f56 : h53 a = .inr (10, [.ref q]) := by rw [eh54, va_up_ne _ _ (fun q => by rw [q, f2] at f1; cases f1)]; exact f1
  have f57 : h53 b = .inr (10, [.ref q2]) := by rw [eh54, va_up_ne _ _ (fun q => by rw [q, f2] at f3; cases f3)]; exact f3
  have f58 : h53 q2 = .inl (1, 4, .inr (.inl (ws4 t2 y0 y1 y2 y3))) := by rw [eh54, va_up_ne _ _ hne]; exact f4
  refine r_iinc (y := 1) (ls' := [some (.ref a), some (.ref b), some (.int 1)]) rfl dX10_meet_22 rfl (by decide) (Nat.le_of_ble_eq_true rfl) rfl ?_
  refine r_goto (pc' := 2) rfl dX10_meet_25 ?_
  refine r_iload_n rfl dX10_meet_2 rfl ?_
  refine r_iconst (v := 4) rfl dX10_meet_3 (by decide) ?_
  refine r_icmp_ge (tgt := 28) rfl rfl dX10_meet_4 (fun c => absurd c (by decide)) (fun _ => ?_)
  refine r_aload_n rfl dX10_meet_7 rfl ?_
  refine r_getv 0 rfl dX10_meet_8 ba f56 fl_X10_9 rfl ?_
  refine r_iload_n rfl dX10_meet_11 rfl ?_
  refine r_dup2 rfl dX10_meet_12 (by intro q; cases q) (by intro q; cases q) ?_
  refine r_laldv (jn := 1) (v := x1) rfl dX10_meet_13 bq f55 (by unfold vp_in; decide) rfl rfl ?_
  refine r_aload_n rfl dX10_meet_14 rfl ?_
  refine r_getv 0 rfl dX10_meet_15 bb f57 fl_X10_9 rfl ?_
  refine r_iload_n rfl dX10_meet_18 rfl ?_
  refine r_laldv (jn := 1) (v := y1) rfl dX10_meet_19 bq2 f58 (by unfold vp_in; decide) rfl rfl ?_
  refine r_land rfl dX10_meet_20 ?_
  refine r_topl (fun x59 e60 => ?_)
  refine r_lastv (jn := 1) (f' := ws4 t x51 x59 x2 x3) rfl dX10_meet_21 bq f55 (by unfold vp_in; decide) rfl (ws4_u1 _ _ _ _ _ _) (fun h61 eh62 => ?_)
  have f63 : h61 q = .inl (1, 4, .inr (.inl (ws4 t x51 x59 x2 x3))) := by rw [eh62]; exact va_up_self _ _ _
  have f64 : h61 a = .inr (10, [.ref q]) := by rw [eh62, va_up_ne _ _ (fun q => by rw [q, f55] at f56; cases f56)]; exact f56
  have f65 : h61 b = .inr (10, [.ref q2]) := by rw [eh62, va_up_ne _ _ (fun q => by rw [q, f55] at f57; cases f57)]; exact f57
  have f66 : h61 q2 = .inl (1, 4, .inr (.inl (ws4 t2 y0 y1 y2 y3))) := by rw [eh62, va_up_ne _ _ hne]; exact f58
  refine r_iinc (y := 2) (ls' := [some (.ref a), some (.ref b), some (.int 2)]) rfl dX10_meet_22 rfl (by decide) (Nat.le_of_ble_eq_true rfl) rfl ?_
  refine r_goto (pc' := 2) rfl dX10_meet_25 ?_
  refine r_iload_n rfl dX10_meet_2 rfl ?_
  refine r_iconst (v := 4) rfl dX10_meet_3 (by decide) ?_
  refine r_icmp_ge (tgt := 28) rfl rfl dX10_meet_4 (fun c => absurd c (by decide)) (fun _ => ?_)
  refine r_aload_n rfl dX10_meet_7 rfl ?_
  refine r_getv 0 rfl dX10_meet_8 ba f64 fl_X10_9 rfl ?_
  refine r_iload_n rfl dX10_meet_11 rfl ?_
  refine r_dup2 rfl dX10_meet_12 (by intro q; cases q) (by intro q; cases q) ?_
  refine r_laldv (jn := 2) (v := x2) rfl dX10_meet_13 bq f63 (by unfold vp_in; decide) rfl rfl ?_
  refine r_aload_n rfl dX10_meet_14 rfl ?_
  refine r_getv 0 rfl dX10_meet_15 bb f65 fl_X10_9 rfl ?_
  refine r_iload_n rfl dX10_meet_18 rfl ?_
  refine r_laldv (jn := 2) (v := y2) rfl dX10_meet_19 bq2 f66 (by unfold vp_in; decide) rfl rfl ?_
  refine r_land rfl dX10_meet_20 ?_
  refine r_topl (fun x67 e68 => ?_)
  refine r_lastv (jn := 2) (f' := ws4 t x51 x59 x67 x3) rfl dX10_meet_21 bq f63 (by unfold vp_in; decide) rfl (ws4_u2 _ _ _ _ _ _) (fun h69 eh70 => ?_)
  have f71 : h69 q = .inl (1, 4, .inr (.inl (ws4 t x51 x59 x67 x3))) := by rw [eh70]; exact va_up_self _ _ _
  have f72 : h69 a = .inr (10, [.ref q]) := by rw [eh70, va_up_ne _ _ (fun q => by rw [q, f63] at f64; cases f64)]; exact f64
  have f73 : h69 b = .inr (10, [.ref q2]) := by rw [eh70, va_up_ne _ _ (fun q => by rw [q, f63] at f65; cases f65)]; exact f65
  have f74 : h69 q2 = .inl (1, 4, .inr (.inl (ws4 t2 y0 y1 y2 y3))) := by rw [eh70, va_up_ne _ _ hne]; exact f66
  refine r_iinc (y := 3) (ls' := [some (.ref a), some (.ref b), some (.int 3)]) rfl dX10_meet_22 rfl (by decide) (Nat.le_of_ble_eq_true rfl) rfl ?_
  refine r_goto (pc' := 2) rfl dX10_meet_25 ?_
  refine r_iload_n rfl dX10_meet_2 rfl ?_
  refine r_iconst (v := 4) rfl dX10_meet_3 (by decide) ?_
  refine r_icmp_ge (tgt := 28) rfl rfl dX10_meet_4 (fun c => absurd c (by decide)) (fun _ => ?_)
  refine r_aload_n rfl dX10_meet_7 rfl ?_
  refine r_getv 0 rfl dX10_meet_8 ba f72 fl_X10_9 rfl ?_
  refine r_iload_n rfl dX10_meet_11 rfl ?_
  refine r_dup2 rfl dX10_meet_12 (by intro q; cases q) (by intro q; cases q) ?_
  refine r_laldv (jn := 3) (v := x3) rfl dX10_meet_13 bq f71 (by unfold vp_in; decide) rfl rfl ?_
  refine r_aload_n rfl dX10_meet_14 rfl ?_
  refine r_getv 0 rfl dX10_meet_15 bb f73 fl_X10_9 rfl ?_
  refine r_iload_n rfl dX10_meet_18 rfl ?_
  refine r_laldv (jn := 3) (v := y3) rfl dX10_meet_19 bq2 f74 (by unfold vp_in; decide) rfl rfl ?_
  refine r_land rfl dX10_meet_20 ?_
  refine r_topl (fun x75 e76 => ?_)
  refine r_lastv (jn := 3) (f' := ws4 t x51 x59 x67 x75) rfl dX10_meet_21 bq f71 (by unfold vp_in; decide) rfl (ws4_u3 _ _ _ _ _ _) (fun h77 eh78 => ?_)
  have f79 : h77 q = .inl (1, 4, .inr (.inl (ws4 t x51 x59 x67 x75))) := by rw [eh78]; exact va_up_self _ _ _
  have f80 : h77 a = .inr (10, [.ref q]) := by rw [eh78, va_up_ne _ _ (fun q => by rw [q, f71] at f72; cases f72)]; exact f72
  have f81 : h77 b = .inr (10, [.ref q2]) := by rw [eh78, va_up_ne _ _ (fun q => by rw [q, f71] at f73; cases f73)]; exact f73
  have f82 : h77 q2 = .inl (1, 4, .inr (.inl (ws4 t2 y0 y1 y2 y3))) := by rw [eh78, va_up_ne _ _ hne]; exact f74
  refine r_iinc (y := 4) (ls' := [some (.ref a), some (.ref b), some (.int 4)]) rfl dX10_meet_22 rfl (by decide) (Nat.le_of_ble_eq_true rfl) rfl ?_
  refine r_goto (pc' := 2) rfl dX10_meet_25 ?_
  refine r_iload_n rfl dX10_meet_2 rfl ?_
  refine r_iconst (v := 4) rfl dX10_meet_3 (by decide) ?_
  refine r_icmp_ge (tgt := 28) rfl rfl dX10_meet_4 (fun _ => ?_) (fun c => absurd c (by decide))
  subst e76
  subst e68
  subst e60
  subst e52
  subst eh78
  subst eh70
  subst eh62
  subst eh54
  exact r_ret dX10_meet_28 (rt_v rfl) ⟨rfl, (by simp only [va_up_up]), rfl⟩
def wsz (x0 x1 x2 x3 : Int64) : Int32 := 0 + bc64 x0 + bc64 x1 + bc64 x2 + bc64 x3
set_option maxRecDepth 20000 in
theorem s_X10_size {xs : Nat → Int32} {L d sz : Nat} {h : ev_H} {a q : Nat} {t : Nat → Int64} {x0 x1 x2 x3 : Int64} (hw : isWS h sz a q t x0 x1 x2 x3) : EV xs L (d + 1) 0 0 M_X10_size sz h 0 [some (.ref a), none, none] [] (fun sz' h' r => sz' = sz ∧ h' = h ∧ r = [.int (wsz x0 x1 x2 x3)]) := by
  obtain ⟨ba, bq, f1, f2⟩ := hw
  refine r_iconst (v := 0) rfl dX10_size_0 (by decide) ?_
  refine r_istore_n (ls' := [some (.ref a), some (.int 0), none]) rfl dX10_size_1 (Nat.le_of_ble_eq_true rfl) rfl ?_
  refine r_iconst (v := 0) rfl dX10_size_2 (by decide) ?_
  refine r_istore_n (ls' := [some (.ref a), some (.int 0), some (.int 0)]) rfl dX10_size_3 (Nat.le_of_ble_eq_true rfl) rfl ?_
  refine r_iload_n rfl dX10_size_4 rfl ?_
  refine r_iconst (v := 4) rfl dX10_size_5 (by decide) ?_
  refine r_icmp_ge (tgt := 27) rfl rfl dX10_size_6 (fun c => absurd c (by decide)) (fun _ => ?_)
  refine r_iload_n rfl dX10_size_9 rfl ?_
  refine r_aload_n rfl dX10_size_10 rfl ?_
  refine r_getv 0 rfl dX10_size_11 ba f1 fl_X10_9 rfl ?_
  refine r_iload_n rfl dX10_size_14 rfl ?_
  refine r_laldv (jn := 0) (v := x0) rfl dX10_size_15 bq f2 (by unfold vp_in; decide) rfl rfl ?_
  refine cl_X10_24 rfl rfl dX10_size_16 (Nat.le_of_ble_eq_true rfl) s_J13_bitCount_95d88 ?_
  rintro _ _ _ ⟨rfl, rfl, rfl⟩
  refine r_iadd rfl dX10_size_19 ?_
  refine r_topi (fun x51 e52 => ?_)
  refine r_istore_n (ls' := [some (.ref a), some (.int x51), some (.int 0)]) rfl dX10_size_20 (Nat.le_of_ble_eq_true rfl) rfl ?_
  refine r_iinc (y := 1) (ls' := [some (.ref a), some (.int x51), some (.int 1)]) rfl dX10_size_21 rfl (by decide) (Nat.le_of_ble_eq_true rfl) rfl ?_
  refine r_goto (pc' := 4) rfl dX10_size_24 ?_
  refine r_iload_n rfl dX10_size_4 rfl ?_
  refine r_iconst (v := 4) rfl dX10_size_5 (by decide) ?_
  refine r_icmp_ge (tgt := 27) rfl rfl dX10_size_6 (fun c => absurd c (by decide)) (fun _ => ?_)
  refine r_iload_n rfl dX10_size_9 rfl ?_
  refine r_aload_n rfl dX10_size_10 rfl ?_
  refine r_getv 0 rfl dX10_size_11 ba f1 fl_X10_9 rfl ?_
  refine r_iload_n rfl dX10_size_14 rfl ?_
  refine r_laldv (jn := 1) (v := x1) rfl dX10_size_15 bq f2 (by unfold vp_in; decide) rfl rfl ?_
  refine cl_X10_24 rfl rfl dX10_size_16 (Nat.le_of_ble_eq_true rfl) s_J13_bitCount_95d88 ?_
  rintro _ _ _ ⟨rfl, rfl, rfl⟩
  refine r_iadd rfl dX10_size_19 ?_
  refine r_topi (fun x53 e54 => ?_)
  refine r_istore_n (ls' := [some (.ref a), some (.int x53), some (.int 1)]) rfl dX10_size_20 (Nat.le_of_ble_eq_true rfl) rfl ?_
  refine r_iinc (y := 2) (ls' := [some (.ref a), some (.int x53), some (.int 2)]) rfl dX10_size_21 rfl (by decide) (Nat.le_of_ble_eq_true rfl) rfl ?_
  refine r_goto (pc' := 4) rfl dX10_size_24 ?_
  refine r_iload_n rfl dX10_size_4 rfl ?_
  refine r_iconst (v := 4) rfl dX10_size_5 (by decide) ?_
  refine r_icmp_ge (tgt := 27) rfl rfl dX10_size_6 (fun c => absurd c (by decide)) (fun _ => ?_)
  refine r_iload_n rfl dX10_size_9 rfl ?_
  refine r_aload_n rfl dX10_size_10 rfl ?_
  refine r_getv 0 rfl dX10_size_11 ba f1 fl_X10_9 rfl ?_
  refine r_iload_n rfl dX10_size_14 rfl ?_
  refine r_laldv (jn := 2) (v := x2) rfl dX10_size_15 bq f2 (by unfold vp_in; decide) rfl rfl ?_
  refine cl_X10_24 rfl rfl dX10_size_16 (Nat.le_of_ble_eq_true rfl) s_J13_bitCount_95d88 ?_
  rintro _ _ _ ⟨rfl, rfl, rfl⟩
  refine r_iadd rfl dX10_size_19 ?_
  refine r_topi (fun x55 e56 => ?_)
  refine r_istore_n (ls' := [some (.ref a), some (.int x55), some (.int 2)]) rfl dX10_size_20 (Nat.le_of_ble_eq_true rfl) rfl ?_
  refine r_iinc (y := 3) (ls' := [some (.ref a), some (.int x55), some (.int 3)]) rfl dX10_size_21 rfl (by decide) (Nat.le_of_ble_eq_true rfl) rfl ?_
  refine r_goto (pc' := 4) rfl dX10_size_24 ?_
  refine r_iload_n rfl dX10_size_4 rfl ?_
  refine r_iconst (v := 4) rfl dX10_size_5 (by decide) ?_
  refine r_icmp_ge (tgt := 27) rfl rfl dX10_size_6 (fun c => absurd c (by decide)) (fun _ => ?_)
  refine r_iload_n rfl dX10_size_9 rfl ?_
  refine r_aload_n rfl dX10_size_10 rfl ?_
  refine r_getv 0 rfl dX10_size_11 ba f1 fl_X10_9 rfl ?_
  refine r_iload_n rfl dX10_size_14 rfl ?_
  refine r_laldv (jn := 3) (v := x3) rfl dX10_size_15 bq f2 (by unfold vp_in; decide) rfl rfl ?_
  refine cl_X10_24 rfl rfl dX10_size_16 (Nat.le_of_ble_eq_true rfl) s_J13_bitCount_95d88 ?_
  rintro _ _ _ ⟨rfl, rfl, rfl⟩
  refine r_iadd rfl dX10_size_19 ?_
  refine r_topi (fun x57 e58 => ?_)
  refine r_istore_n (ls' := [some (.ref a), some (.int x57), some (.int 3)]) rfl dX10_size_20 (Nat.le_of_ble_eq_true rfl) rfl ?_
  refine r_iinc (y := 4) (ls' := [some (.ref a), some (.int x57), some (.int 4)]) rfl dX10_size_21 rfl (by decide) (Nat.le_of_ble_eq_true rfl) rfl ?_
  refine r_goto (pc' := 4) rfl dX10_size_24 ?_
  refine r_iload_n rfl dX10_size_4 rfl ?_
  refine r_iconst (v := 4) rfl dX10_size_5 (by decide) ?_
  refine r_icmp_ge (tgt := 27) rfl rfl dX10_size_6 (fun _ => ?_) (fun c => absurd c (by decide))
  refine r_iload_n rfl dX10_size_27 rfl ?_
  subst e58
  subst e56
  subst e54
  subst e52
  exact r_ret dX10_size_28 (rt_i rfl) ⟨rfl, rfl, rfl⟩
set_option maxRecDepth 20000 in
theorem s_X10_sizeWith {xs : Nat → Int32} {L d sz : Nat} {h : ev_H} {a q b q2 : Nat} {t t2 : Nat → Int64} {x0 x1 x2 x3 y0 y1 y2 y3 : Int64} (hw : isWS h sz a q t x0 x1 x2 x3) (hw2 : isWS h sz b q2 t2 y0 y1 y2 y3) : EV xs L (d + 1) 0 0 M_X10_sizeWith sz h 0 [some (.ref a), some (.ref b), none, none] [] (fun sz' h' r => sz' = sz ∧ h' = h ∧ r = [.int (wsz (x0 &&& y0) (x1 &&& y1) (x2 &&& y2) (x3 &&& y3))]) := by
  obtain ⟨ba, bq, f1, f2⟩ := hw
  obtain ⟨bb, bq2, f3, f4⟩ := hw2
  refine r_iconst (v := 0) rfl dX10_sizeWith_0 (by decide) ?_
  refine r_istore_n (ls' := [some (.ref a), some (.ref b), some (.int 0), none]) rfl dX10_sizeWith_1 (Nat.le_of_ble_eq_true rfl) rfl ?_
  refine r_iconst (v := 0) rfl dX10_sizeWith_2 (by decide) ?_
  refine r_istore_n (ls' := [some (.ref a), some (.ref b), some (.int 0), some (.int 0)]) rfl dX10_sizeWith_3 (Nat.le_of_ble_eq_true rfl) rfl ?_
  refine r_iload_n rfl dX10_sizeWith_4 rfl ?_
  refine r_iconst (v := 4) rfl dX10_sizeWith_5 (by decide) ?_
  refine r_icmp_ge (tgt := 34) rfl rfl dX10_sizeWith_6 (fun c => absurd c (by decide)) (fun _ => ?_)
  refine r_iload_n rfl dX10_sizeWith_9 rfl ?_
  refine r_aload_n rfl dX10_sizeWith_10 rfl ?_
  refine r_getv 0 rfl dX10_sizeWith_11 ba f1 fl_X10_9 rfl ?_
  refine r_iload_n rfl dX10_sizeWith_14 rfl ?_
  refine r_laldv (jn := 0) (v := x0) rfl dX10_sizeWith_15 bq f2 (by unfold vp_in; decide) rfl rfl ?_
  refine r_aload_n rfl dX10_sizeWith_16 rfl ?_
  refine r_getv 0 rfl dX10_sizeWith_17 bb f3 fl_X10_9 rfl ?_
  refine r_iload_n rfl dX10_sizeWith_20 rfl ?_
  refine r_laldv (jn := 0) (v := y0) rfl dX10_sizeWith_21 bq2 f4 (by unfold vp_in; decide) rfl rfl ?_
  refine r_land rfl dX10_sizeWith_22 ?_
  refine cl_X10_24 rfl rfl dX10_sizeWith_23 (Nat.le_of_ble_eq_true rfl) s_J13_bitCount_95d88 ?_
  rintro _ _ _ ⟨rfl, rfl, rfl⟩
  refine r_iadd rfl dX10_sizeWith_26 ?_
  refine r_topi (fun x51 e52 => ?_)
  refine r_istore_n (ls' := [some (.ref a), some (.ref b), some (.int x51), some (.int 0)]) rfl dX10_sizeWith_27 (Nat.le_of_ble_eq_true rfl) rfl ?_
  refine r_iinc (y := 1) (ls' := [some (.ref a), some (.ref b), some (.int x51), some (.int 1)]) rfl dX10_sizeWith_28 rfl (by decide) (Nat.le_of_ble_eq_true rfl) rfl ?_
  refine r_goto (pc' := 4) rfl dX10_sizeWith_31 ?_
  refine r_iload_n rfl dX10_sizeWith_4 rfl ?_
  refine r_iconst (v := 4) rfl dX10_sizeWith_5 (by decide) ?_
  refine r_icmp_ge (tgt := 34) rfl rfl dX10_sizeWith_6 (fun c => absurd c (by decide)) (fun _ => ?_)
  refine r_iload_n rfl dX10_sizeWith_9 rfl ?_
  refine r_aload_n rfl dX10_sizeWith_10 rfl ?_
  refine r_getv 0 rfl dX10_sizeWith_11 ba f1 fl_X10_9 rfl ?_
  refine r_iload_n rfl dX10_sizeWith_14 rfl ?_
  refine r_laldv (jn := 1) (v := x1) rfl dX10_sizeWith_15 bq f2 (by unfold vp_in; decide) rfl rfl ?_
  refine r_aload_n rfl dX10_sizeWith_16 rfl ?_
  refine r_getv 0 rfl dX10_sizeWith_17 bb f3 fl_X10_9 rfl ?_
  refine r_iload_n rfl dX10_sizeWith_20 rfl ?_
  refine r_laldv (jn := 1) (v := y1) rfl dX10_sizeWith_21 bq2 f4 (by unfold vp_in; decide) rfl rfl ?_
  refine r_land rfl dX10_sizeWith_22 ?_
  refine cl_X10_24 rfl rfl dX10_sizeWith_23 (Nat.le_of_ble_eq_true rfl) s_J13_bitCount_95d88 ?_
  rintro _ _ _ ⟨rfl, rfl, rfl⟩
  refine r_iadd rfl dX10_sizeWith_26 ?_
  refine r_topi (fun x53 e54 => ?_)
  refine r_istore_n (ls' := [some (.ref a), some (.ref b), some (.int x53), some (.int 1)]) rfl dX10_sizeWith_27 (Nat.le_of_ble_eq_true rfl) rfl ?_
  refine r_iinc (y := 2) (ls' := [some (.ref a), some (.ref b), some (.int x53), some (.int 2)]) rfl dX10_sizeWith_28 rfl (by decide) (Nat.le_of_ble_eq_true rfl) rfl ?_
  refine r_goto (pc' := 4) rfl dX10_sizeWith_31 ?_
  refine r_iload_n rfl dX10_sizeWith_4 rfl ?_
  refine r_iconst (v := 4) rfl dX10_sizeWith_5 (by decide) ?_
  refine r_icmp_ge (tgt := 34) rfl rfl dX10_sizeWith_6 (fun c => absurd c (by decide)) (fun _ => ?_)
  refine r_iload_n rfl dX10_sizeWith_9 rfl ?_
  refine r_aload_n rfl dX10_sizeWith_10 rfl ?_
  refine r_getv 0 rfl dX10_sizeWith_11 ba f1 fl_X10_9 rfl ?_
  refine r_iload_n rfl dX10_sizeWith_14 rfl ?_
  refine r_laldv (jn := 2) (v := x2) rfl dX10_sizeWith_15 bq f2 (by unfold vp_in; decide) rfl rfl ?_
  refine r_aload_n rfl dX10_sizeWith_16 rfl ?_
  refine r_getv 0 rfl dX10_sizeWith_17 bb f3 fl_X10_9 rfl ?_
  refine r_iload_n rfl dX10_sizeWith_20 rfl ?_
  refine r_laldv (jn := 2) (v := y2) rfl dX10_sizeWith_21 bq2 f4 (by unfold vp_in; decide) rfl rfl ?_
  refine r_land rfl dX10_sizeWith_22 ?_
  refine cl_X10_24 rfl rfl dX10_sizeWith_23 (Nat.le_of_ble_eq_true rfl) s_J13_bitCount_95d88 ?_
  rintro _ _ _ ⟨rfl, rfl, rfl⟩
  refine r_iadd rfl dX10_sizeWith_26 ?_
  refine r_topi (fun x55 e56 => ?_)
  refine r_istore_n (ls' := [some (.ref a), some (.ref b), some (.int x55), some (.int 2)]) rfl dX10_sizeWith_27 (Nat.le_of_ble_eq_true rfl) rfl ?_
  refine r_iinc (y := 3) (ls' := [some (.ref a), some (.ref b), some (.int x55), some (.int 3)]) rfl dX10_sizeWith_28 rfl (by decide) (Nat.le_of_ble_eq_true rfl) rfl ?_
  refine r_goto (pc' := 4) rfl dX10_sizeWith_31 ?_
  refine r_iload_n rfl dX10_sizeWith_4 rfl ?_
  refine r_iconst (v := 4) rfl dX10_sizeWith_5 (by decide) ?_
  refine r_icmp_ge (tgt := 34) rfl rfl dX10_sizeWith_6 (fun c => absurd c (by decide)) (fun _ => ?_)
  refine r_iload_n rfl dX10_sizeWith_9 rfl ?_
  refine r_aload_n rfl dX10_sizeWith_10 rfl ?_
  refine r_getv 0 rfl dX10_sizeWith_11 ba f1 fl_X10_9 rfl ?_
  refine r_iload_n rfl dX10_sizeWith_14 rfl ?_
  refine r_laldv (jn := 3) (v := x3) rfl dX10_sizeWith_15 bq f2 (by unfold vp_in; decide) rfl rfl ?_
  refine r_aload_n rfl dX10_sizeWith_16 rfl ?_
  refine r_getv 0 rfl dX10_sizeWith_17 bb f3 fl_X10_9 rfl ?_
  refine r_iload_n rfl dX10_sizeWith_20 rfl ?_
  refine r_laldv (jn := 3) (v := y3) rfl dX10_sizeWith_21 bq2 f4 (by unfold vp_in; decide) rfl rfl ?_
  refine r_land rfl dX10_sizeWith_22 ?_
  refine cl_X10_24 rfl rfl dX10_sizeWith_23 (Nat.le_of_ble_eq_true rfl) s_J13_bitCount_95d88 ?_
  rintro _ _ _ ⟨rfl, rfl, rfl⟩
  refine r_iadd rfl dX10_sizeWith_26 ?_
  refine r_topi (fun x57 e58 => ?_)
  refine r_istore_n (ls' := [some (.ref a), some (.ref b), some (.int x57), some (.int 3)]) rfl dX10_sizeWith_27 (Nat.le_of_ble_eq_true rfl) rfl ?_
  refine r_iinc (y := 4) (ls' := [some (.ref a), some (.ref b), some (.int x57), some (.int 4)]) rfl dX10_sizeWith_28 rfl (by decide) (Nat.le_of_ble_eq_true rfl) rfl ?_
  refine r_goto (pc' := 4) rfl dX10_sizeWith_31 ?_
  refine r_iload_n rfl dX10_sizeWith_4 rfl ?_
  refine r_iconst (v := 4) rfl dX10_sizeWith_5 (by decide) ?_
  refine r_icmp_ge (tgt := 34) rfl rfl dX10_sizeWith_6 (fun _ => ?_) (fun c => absurd c (by decide))
  refine r_iload_n rfl dX10_sizeWith_34 rfl ?_
  subst e58
  subst e56
  subst e54
  subst e52
  exact r_ret dX10_sizeWith_35 (rt_i rfl) ⟨rfl, rfl, rfl⟩
def isW (w : Int32) : Int32 := if w < 0 then 0 else if 256 ≤ w then 0 else 1
set_option maxRecDepth 20000 in
theorem s_X11_isWorld {xs : Nat → Int32} {L d sz : Nat} {h : ev_H} {w : Int32}  : EV xs L (d + 0) 0 0 M_X11_isWorld sz h 0 [some (.int w)] [] (fun sz' h' r => sz' = sz ∧ h' = h ∧ r = [.int (isW w)]) := by
  refine r_iload_n rfl dX11_isWorld_0 rfl ?_
  refine r_if_lt (tgt := 15) rfl rfl dX11_isWorld_1 (fun c51 => ?_) (fun c51 => ?_)
  · refine r_iconst (v := 0) rfl dX11_isWorld_15 (by decide) ?_
    exact r_ret dX11_isWorld_16 (rt_z rfl (Or.inl rfl)) ⟨rfl, rfl, by simp [isW, c51]⟩
  · refine r_iload_n rfl dX11_isWorld_4 rfl ?_
    refine r_sipush (v := 256) rfl dX11_isWorld_5 (by decide) ?_
    refine r_icmp_ge (tgt := 15) rfl rfl dX11_isWorld_8 (fun c52 => ?_) (fun c52 => ?_)
    · refine r_iconst (v := 0) rfl dX11_isWorld_15 (by decide) ?_
      exact r_ret dX11_isWorld_16 (rt_z rfl (Or.inl rfl)) ⟨rfl, rfl, by simp [isW, c51, c52]⟩
    · refine r_iconst (v := 1) rfl dX11_isWorld_11 (by decide) ?_
      refine r_goto (pc' := 16) rfl dX11_isWorld_12 ?_
      exact r_ret dX11_isWorld_16 (rt_z rfl (Or.inr rfl)) ⟨rfl, rfl, by simp [isW, c51, c52]⟩
theorem isW_i4 {w : Int32} (h : ¬ isW w = 0) : vp_in (w >>> (6 &&& 31)) 4 := by
  unfold isW at h
  split at h
  · exact absurd rfl h
  · rename_i h1
    split at h
    · exact absurd rfl h
    · rename_i h2
      obtain ⟨j, hj, rfl⟩ := vp_in_of (vpi (n := 256) rfl h1 h2) (by decide)
      rw [pk_shrN (by omega) (6 &&& 31) 6 (by decide)]
      exact vp_in_nI (by omega) (by decide)
def pws (l p : Int32) : Int64 := if l < 0 then (if (p >>> ((l - 6) &&& 31)) &&& 1 = 0 then 0 else -1) else if 6 ≤ l then (if (p >>> ((l - 6) &&& 31)) &&& 1 = 0 then 0 else -1) else ev_so l.toNatClampNeg
set_option maxRecDepth 20000 in
theorem s_X10_partWhereSo {xs : Nat → Int32} {L d sz : Nat} {h : ev_H} {l p : Int32}  : EV xs L (d + 0) 0 0 M_X10_partWhereSo sz h 0 [some (.int l), some (.int p)] [] (fun sz' h' r => sz' = sz ∧ h' = h ∧ r = [.long (pws l p)]) := by
  refine r_iload_n rfl dX10_partWhereSo_0 rfl ?_
  refine r_if_lt (tgt := 18) rfl rfl dX10_partWhereSo_1 (fun c51 => ?_) (fun c51 => ?_)
  · refine r_iload_n rfl dX10_partWhereSo_18 rfl ?_
    refine r_iload_n rfl dX10_partWhereSo_19 rfl ?_
    refine r_gets rfl dX10_partWhereSo_20 fs_X10_15 ?_
    refine r_solen rfl dX10_partWhereSo_23 ?_
    refine r_isub rfl dX10_partWhereSo_24 ?_
    refine r_ishr rfl dX10_partWhereSo_25 ?_
    refine r_iconst (v := 1) rfl dX10_partWhereSo_26 (by decide) ?_
    refine r_iand rfl dX10_partWhereSo_27 ?_
    refine r_if_eq (tgt := 37) rfl rfl dX10_partWhereSo_28 (fun c52 => ?_) (fun c52 => ?_)
    · refine r_lconst (v := 0) rfl dX10_partWhereSo_37 (by decide) ?_
      exact r_ret dX10_partWhereSo_38 (rt_l rfl) ⟨rfl, rfl, by simp [pws, c51, c52]⟩
    · refine r_ldc2 (v := (-1)) rfl dX10_partWhereSo_31 lc_X10_18 ?_
      refine r_goto (pc' := 38) rfl dX10_partWhereSo_34 ?_
      exact r_ret dX10_partWhereSo_38 (rt_l rfl) ⟨rfl, rfl, by simp [pws, c51, c52]⟩
  · refine r_iload_n rfl dX10_partWhereSo_4 rfl ?_
    refine r_gets rfl dX10_partWhereSo_5 fs_X10_15 ?_
    refine r_solen rfl dX10_partWhereSo_8 ?_
    refine r_icmp_ge (tgt := 18) rfl rfl dX10_partWhereSo_9 (fun c53 => ?_) (fun c53 => ?_)
    · refine r_iload_n rfl dX10_partWhereSo_18 rfl ?_
      refine r_iload_n rfl dX10_partWhereSo_19 rfl ?_
      refine r_gets rfl dX10_partWhereSo_20 fs_X10_15 ?_
      refine r_solen rfl dX10_partWhereSo_23 ?_
      refine r_isub rfl dX10_partWhereSo_24 ?_
      refine r_ishr rfl dX10_partWhereSo_25 ?_
      refine r_iconst (v := 1) rfl dX10_partWhereSo_26 (by decide) ?_
      refine r_iand rfl dX10_partWhereSo_27 ?_
      refine r_if_eq (tgt := 37) rfl rfl dX10_partWhereSo_28 (fun c54 => ?_) (fun c54 => ?_)
      · refine r_lconst (v := 0) rfl dX10_partWhereSo_37 (by decide) ?_
        exact r_ret dX10_partWhereSo_38 (rt_l rfl) ⟨rfl, rfl, by simp [pws, c51, c53, c54]⟩
      · refine r_ldc2 (v := (-1)) rfl dX10_partWhereSo_31 lc_X10_18 ?_
        refine r_goto (pc' := 38) rfl dX10_partWhereSo_34 ?_
        exact r_ret dX10_partWhereSo_38 (rt_l rfl) ⟨rfl, rfl, by simp [pws, c51, c53, c54]⟩
    · refine r_gets rfl dX10_partWhereSo_12 fs_X10_15 ?_
      refine r_iload_n rfl dX10_partWhereSo_15 rfl ?_
      refine r_soldv (jn := l.toNatClampNeg) (v := ev_so l.toNatClampNeg) rfl dX10_partWhereSo_16 (vpi (m := 6) (by decide) c51 c53) (by first | rfl | assumption) rfl ?_
      exact r_ret dX10_partWhereSo_17 (rt_l rfl) ⟨rfl, rfl, by simp [pws, c51, c53]⟩
def wsHas (x0 x1 x2 x3 : Int64) (w : Int32) : Int32 := if (isW w) = 0 then (0) else (if (lg_cmp ((((sel4 x0 x1 x2 x3 ((w >>> (6 &&& 31)).toNatClampNeg)).toUInt64 >>> ((w &&& 63 : Int32).toInt64.toUInt64 &&& Int64.toUInt64 63)).toInt64) &&& 1) 0) = 0 then (0) else (1))
set_option maxRecDepth 20000 in
theorem s_X10_has {xs : Nat → Int32} {L d sz : Nat} {h : ev_H} {a q : Nat} {t : Nat → Int64} {x0 x1 x2 x3 : Int64} {w : Int32} (hw : isWS h sz a q t x0 x1 x2 x3) : EV xs L (d + 1) 0 0 M_X10_has sz h 0 [some (.ref a), some (.int w)] [] (fun sz' h' r => sz' = sz ∧ h' = h ∧ r = [.int (wsHas x0 x1 x2 x3 w)]) := by
  obtain ⟨ba, bq, f1, f2⟩ := hw
  refine r_iload_n rfl dX10_has_0 rfl ?_
  refine cl_X10_20 rfl rfl dX10_has_1 (Nat.le_of_ble_eq_true rfl) s_X11_isWorld ?_
  rintro _ _ _ ⟨rfl, rfl, rfl⟩
  refine r_if_eq (tgt := 32) rfl rfl dX10_has_4 (fun c51 => ?_) (fun c51 => ?_)
  · refine r_iconst (v := 0) rfl dX10_has_32 (by decide) ?_
    exact r_ret dX10_has_33 (rt_z rfl (Or.inl rfl)) ⟨rfl, rfl, (by unfold wsHas; rw [if_pos c51] <;> rfl)⟩
  · refine r_aload_n rfl dX10_has_7 rfl ?_
    refine r_getv 0 rfl dX10_has_8 ba f1 fl_X10_9 rfl ?_
    refine r_iload_n rfl dX10_has_11 rfl ?_
    refine r_bipush (v := 6) rfl dX10_has_12 (by decide) ?_
    refine r_ishr rfl dX10_has_14 ?_
    refine r_laldv (jn := (w >>> (6 &&& 31)).toNatClampNeg) (v := sel4 x0 x1 x2 x3 ((w >>> (6 &&& 31)).toNatClampNeg)) rfl dX10_has_15 bq f2 (isW_i4 c51) (by first | rfl | assumption) (ws4_s (vp_in_lt (isW_i4 c51))) ?_
    refine r_iload_n rfl dX10_has_16 rfl ?_
    refine r_bipush (v := 63) rfl dX10_has_17 (by decide) ?_
    refine r_iand rfl dX10_has_19 ?_
    refine r_lushr rfl dX10_has_20 ?_
    refine r_lconst (v := 1) rfl dX10_has_21 (by decide) ?_
    refine r_land rfl dX10_has_22 ?_
    refine r_lconst (v := 0) rfl dX10_has_23 (by decide) ?_
    refine r_lcmp rfl dX10_has_24 ?_
    refine r_if_eq (tgt := 32) rfl rfl dX10_has_25 (fun c52 => ?_) (fun c52 => ?_)
    · refine r_iconst (v := 0) rfl dX10_has_32 (by decide) ?_
      exact r_ret dX10_has_33 (rt_z rfl (Or.inl rfl)) ⟨rfl, rfl, (by unfold wsHas; rw [if_neg c51, if_pos c52] <;> rfl)⟩
    · refine r_iconst (v := 1) rfl dX10_has_28 (by decide) ?_
      refine r_goto (pc' := 33) rfl dX10_has_29 ?_
      exact r_ret dX10_has_33 (rt_z rfl (Or.inr rfl)) ⟨rfl, rfl, (by unfold wsHas; rw [if_neg c51, if_neg c52] <;> rfl)⟩
def wsIn (x0 x1 x2 x3 y0 y1 y2 y3 : Int64) : Int32 := if ¬ (wsz (x0 &&& y0) (x1 &&& y1) (x2 &&& y2) (x3 &&& y3)) = (wsz x0 x1 x2 x3) then (0) else (1)
set_option maxRecDepth 20000 in
theorem s_X10_isWithin {xs : Nat → Int32} {L d sz : Nat} {h : ev_H} {a q b q2 : Nat} {t t2 : Nat → Int64} {x0 x1 x2 x3 y0 y1 y2 y3 : Int64} (hw : isWS h sz a q t x0 x1 x2 x3) (hw2 : isWS h sz b q2 t2 y0 y1 y2 y3) : EV xs L (d + 2) 0 0 M_X10_isWithin sz h 0 [some (.ref a), some (.ref b)] [] (fun sz' h' r => sz' = sz ∧ h' = h ∧ r = [.int (wsIn x0 x1 x2 x3 y0 y1 y2 y3)]) := by
  obtain ⟨ba, bq, f1, f2⟩ := hw
  obtain ⟨bb, bq2, f3, f4⟩ := hw2
  refine r_aload_n rfl dX10_isWithin_0 rfl ?_
  refine r_aload_n rfl dX10_isWithin_1 rfl ?_
  refine cl_X10_30 rfl rfl dX10_isWithin_2 ba.1 ba.2 f1 (Nat.le_of_ble_eq_true rfl) (s_X10_sizeWith ⟨ba, bq, f1, f2⟩ ⟨bb, bq2, f3, f4⟩) ?_
  rintro _ _ _ ⟨rfl, rfl, rfl⟩
  refine r_aload_n rfl dX10_isWithin_5 rfl ?_
  refine cl_X10_34 rfl rfl dX10_isWithin_6 ba.1 ba.2 f1 (Nat.le_of_ble_eq_true rfl) (s_X10_size ⟨ba, bq, f1, f2⟩) ?_
  rintro _ _ _ ⟨rfl, rfl, rfl⟩
  refine r_icmp_ne (tgt := 16) rfl rfl dX10_isWithin_9 (fun c51 => ?_) (fun c51 => ?_)
  · refine r_iconst (v := 0) rfl dX10_isWithin_16 (by decide) ?_
    exact r_ret dX10_isWithin_17 (rt_z rfl (Or.inl rfl)) ⟨rfl, rfl, (by unfold wsIn; rw [if_pos c51] <;> rfl)⟩
  · refine r_iconst (v := 1) rfl dX10_isWithin_12 (by decide) ?_
    refine r_goto (pc' := 17) rfl dX10_isWithin_13 ?_
    exact r_ret dX10_isWithin_17 (rt_z rfl (Or.inr rfl)) ⟨rfl, rfl, (by unfold wsIn; rw [if_neg (fun z => z c51)] <;> rfl)⟩
theorem vpi2 {j m : Int32} {n : Nat} (hm : m.toInt = n) (h0 : ¬ j < 0) (h1 : j < m) : vp_in j n := vpi hm h0 (fun z => absurd h1 (Int32.not_lt.mpr z))
def wsPart (x0 x1 x2 x3 : Int64) (p : Int32) : Int64 := if p < 0 then (0) else (if p < 4 then (sel4 x0 x1 x2 x3 p.toNatClampNeg) else (0))
set_option maxRecDepth 20000 in
theorem s_X10_part {xs : Nat → Int32} {L d sz : Nat} {h : ev_H} {a q : Nat} {t : Nat → Int64} {x0 x1 x2 x3 : Int64} {p : Int32} (hw : isWS h sz a q t x0 x1 x2 x3) : EV xs L (d + 0) 0 0 M_X10_part sz h 0 [some (.ref a), some (.int p)] [] (fun sz' h' r => sz' = sz ∧ h' = h ∧ r = [.long (wsPart x0 x1 x2 x3 p)]) := by
  obtain ⟨ba, bq, f1, f2⟩ := hw
  refine r_iload_n rfl dX10_part_0 rfl ?_
  refine r_if_lt (tgt := 9) rfl rfl dX10_part_1 (fun c51 => ?_) (fun c51 => ?_)
  · refine r_lconst (v := 0) rfl dX10_part_9 (by decide) ?_
    refine r_goto (pc' := 19) rfl dX10_part_10 ?_
    exact r_ret dX10_part_19 (rt_l rfl) ⟨rfl, rfl, (by unfold wsPart; rw [if_pos c51] <;> rfl)⟩
  · refine r_iload_n rfl dX10_part_4 rfl ?_
    refine r_iconst (v := 4) rfl dX10_part_5 (by decide) ?_
    refine r_icmp_lt (tgt := 13) rfl rfl dX10_part_6 (fun c52 => ?_) (fun c52 => ?_)
    · refine r_aload_n rfl dX10_part_13 rfl ?_
      refine r_getv 0 rfl dX10_part_14 ba f1 fl_X10_9 rfl ?_
      refine r_iload_n rfl dX10_part_17 rfl ?_
      refine r_laldv (jn := p.toNatClampNeg) (v := sel4 x0 x1 x2 x3 p.toNatClampNeg) rfl dX10_part_18 bq f2 (vpi2 (m := 4) (by decide) c51 c52) (by first | rfl | assumption) (ws4_s (vp_in_lt (vpi2 (m := 4) (by decide) c51 c52))) ?_
      exact r_ret dX10_part_19 (rt_l rfl) ⟨rfl, rfl, (by unfold wsPart; rw [if_neg c51, if_pos c52] <;> rfl)⟩
    · refine r_lconst (v := 0) rfl dX10_part_9 (by decide) ?_
      refine r_goto (pc' := 19) rfl dX10_part_10 ?_
      exact r_ret dX10_part_19 (rt_l rfl) ⟨rfl, rfl, (by unfold wsPart; rw [if_neg c51, if_neg c52] <;> rfl)⟩
def wsLeast (x0 x1 x2 x3 : Int64) : Int32 := if (lg_cmp x0 0) = 0 then (if (lg_cmp x1 0) = 0 then (if (lg_cmp x2 0) = 0 then (if (lg_cmp x3 0) = 0 then ((-1)) else (192 + (bc64 ((x3 &&& (-x3)) - 1)))) else (128 + (bc64 ((x2 &&& (-x2)) - 1)))) else (64 + (bc64 ((x1 &&& (-x1)) - 1)))) else (0 + (bc64 ((x0 &&& (-x0)) - 1)))
set_option maxRecDepth 20000 in
theorem s_X10_leastWorld {xs : Nat → Int32} {L d sz : Nat} {h : ev_H} {a q : Nat} {t : Nat → Int64} {x0 x1 x2 x3 : Int64} (hw : isWS h sz a q t x0 x1 x2 x3) : EV xs L (d + 1) 0 0 M_X10_leastWorld sz h 0 [some (.ref a), none, none, none] [] (fun sz' h' r => sz' = sz ∧ h' = h ∧ r = [.int (wsLeast x0 x1 x2 x3)]) := by
  obtain ⟨ba, bq, f1, f2⟩ := hw
  refine r_iconst (v := 0) rfl dX10_leastWorld_0 (by decide) ?_
  refine r_istore_n (ls' := [some (.ref a), some (.int 0), none, none]) rfl dX10_leastWorld_1 (Nat.le_of_ble_eq_true rfl) rfl ?_
  refine r_iload_n rfl dX10_leastWorld_2 rfl ?_
  refine r_iconst (v := 4) rfl dX10_leastWorld_3 (by decide) ?_
  refine r_icmp_ge (tgt := 51) rfl rfl dX10_leastWorld_4 (fun c => absurd c (by decide)) (fun _ => ?_)
  refine r_aload_n rfl dX10_leastWorld_7 rfl ?_
  refine r_getv 0 rfl dX10_leastWorld_8 ba f1 fl_X10_9 rfl ?_
  refine r_iload_n rfl dX10_leastWorld_11 rfl ?_
  refine r_laldv (jn := 0) (v := x0) rfl dX10_leastWorld_12 bq f2 (by unfold vp_in; decide) rfl rfl ?_
  refine r_lconst (v := 0) rfl dX10_leastWorld_13 (by decide) ?_
  refine r_lcmp rfl dX10_leastWorld_14 ?_
  refine r_if_eq (tgt := 45) rfl rfl dX10_leastWorld_15 (fun c51 => ?_) (fun c51 => ?_)
  · refine r_iinc (y := 1) (ls' := [some (.ref a), some (.int 1), none, none]) rfl dX10_leastWorld_45 rfl (by decide) (Nat.le_of_ble_eq_true rfl) rfl ?_
    refine r_goto (pc' := 2) rfl dX10_leastWorld_48 ?_
    refine r_iload_n rfl dX10_leastWorld_2 rfl ?_
    refine r_iconst (v := 4) rfl dX10_leastWorld_3 (by decide) ?_
    refine r_icmp_ge (tgt := 51) rfl rfl dX10_leastWorld_4 (fun c => absurd c (by decide)) (fun _ => ?_)
    refine r_aload_n rfl dX10_leastWorld_7 rfl ?_
    refine r_getv 0 rfl dX10_leastWorld_8 ba f1 fl_X10_9 rfl ?_
    refine r_iload_n rfl dX10_leastWorld_11 rfl ?_
    refine r_laldv (jn := 1) (v := x1) rfl dX10_leastWorld_12 bq f2 (by unfold vp_in; decide) rfl rfl ?_
    refine r_lconst (v := 0) rfl dX10_leastWorld_13 (by decide) ?_
    refine r_lcmp rfl dX10_leastWorld_14 ?_
    refine r_if_eq (tgt := 45) rfl rfl dX10_leastWorld_15 (fun c52 => ?_) (fun c52 => ?_)
    · refine r_iinc (y := 2) (ls' := [some (.ref a), some (.int 2), none, none]) rfl dX10_leastWorld_45 rfl (by decide) (Nat.le_of_ble_eq_true rfl) rfl ?_
      refine r_goto (pc' := 2) rfl dX10_leastWorld_48 ?_
      refine r_iload_n rfl dX10_leastWorld_2 rfl ?_
      refine r_iconst (v := 4) rfl dX10_leastWorld_3 (by decide) ?_
      refine r_icmp_ge (tgt := 51) rfl rfl dX10_leastWorld_4 (fun c => absurd c (by decide)) (fun _ => ?_)
      refine r_aload_n rfl dX10_leastWorld_7 rfl ?_
      refine r_getv 0 rfl dX10_leastWorld_8 ba f1 fl_X10_9 rfl ?_
      refine r_iload_n rfl dX10_leastWorld_11 rfl ?_
      refine r_laldv (jn := 2) (v := x2) rfl dX10_leastWorld_12 bq f2 (by unfold vp_in; decide) rfl rfl ?_
      refine r_lconst (v := 0) rfl dX10_leastWorld_13 (by decide) ?_
      refine r_lcmp rfl dX10_leastWorld_14 ?_
      refine r_if_eq (tgt := 45) rfl rfl dX10_leastWorld_15 (fun c53 => ?_) (fun c53 => ?_)
      · refine r_iinc (y := 3) (ls' := [some (.ref a), some (.int 3), none, none]) rfl dX10_leastWorld_45 rfl (by decide) (Nat.le_of_ble_eq_true rfl) rfl ?_
        refine r_goto (pc' := 2) rfl dX10_leastWorld_48 ?_
        refine r_iload_n rfl dX10_leastWorld_2 rfl ?_
        refine r_iconst (v := 4) rfl dX10_leastWorld_3 (by decide) ?_
        refine r_icmp_ge (tgt := 51) rfl rfl dX10_leastWorld_4 (fun c => absurd c (by decide)) (fun _ => ?_)
        refine r_aload_n rfl dX10_leastWorld_7 rfl ?_
        refine r_getv 0 rfl dX10_leastWorld_8 ba f1 fl_X10_9 rfl ?_
        refine r_iload_n rfl dX10_leastWorld_11 rfl ?_
        refine r_laldv (jn := 3) (v := x3) rfl dX10_leastWorld_12 bq f2 (by unfold vp_in; decide) rfl rfl ?_
        refine r_lconst (v := 0) rfl dX10_leastWorld_13 (by decide) ?_
        refine r_lcmp rfl dX10_leastWorld_14 ?_
        refine r_if_eq (tgt := 45) rfl rfl dX10_leastWorld_15 (fun c54 => ?_) (fun c54 => ?_)
        · refine r_iinc (y := 4) (ls' := [some (.ref a), some (.int 4), none, none]) rfl dX10_leastWorld_45 rfl (by decide) (Nat.le_of_ble_eq_true rfl) rfl ?_
          refine r_goto (pc' := 2) rfl dX10_leastWorld_48 ?_
          refine r_iload_n rfl dX10_leastWorld_2 rfl ?_
          refine r_iconst (v := 4) rfl dX10_leastWorld_3 (by decide) ?_
          refine r_icmp_ge (tgt := 51) rfl rfl dX10_leastWorld_4 (fun _ => ?_) (fun c => absurd c (by decide))
          refine r_iconst (v := (-1)) rfl dX10_leastWorld_51 (by decide) ?_
          exact r_ret dX10_leastWorld_52 (rt_i rfl) ⟨rfl, rfl, (by unfold wsLeast; rw [if_pos c51, if_pos c52, if_pos c53, if_pos c54] <;> rfl)⟩
        · refine r_aload_n rfl dX10_leastWorld_18 rfl ?_
          refine r_getv 0 rfl dX10_leastWorld_19 ba f1 fl_X10_9 rfl ?_
          refine r_iload_n rfl dX10_leastWorld_22 rfl ?_
          refine r_laldv (jn := 3) (v := x3) rfl dX10_leastWorld_23 bq f2 (by unfold vp_in; decide) rfl rfl ?_
          refine r_aload_n rfl dX10_leastWorld_24 rfl ?_
          refine r_getv 0 rfl dX10_leastWorld_25 ba f1 fl_X10_9 rfl ?_
          refine r_iload_n rfl dX10_leastWorld_28 rfl ?_
          refine r_laldv (jn := 3) (v := x3) rfl dX10_leastWorld_29 bq f2 (by unfold vp_in; decide) rfl rfl ?_
          refine r_lneg rfl dX10_leastWorld_30 ?_
          refine r_land rfl dX10_leastWorld_31 ?_
          refine r_topl (fun x55 e56 => ?_)
          refine r_lstore_n (ls' := [some (.ref a), some (.int 3), some (.long x55), none]) rfl dX10_leastWorld_32 (Nat.le_of_ble_eq_true rfl) rfl ?_
          refine r_bipush (v := 64) rfl dX10_leastWorld_33 (by decide) ?_
          refine r_iload_n rfl dX10_leastWorld_35 rfl ?_
          refine r_imul rfl dX10_leastWorld_36 ?_
          refine r_eqi (y := 192) (by decide) ?_
          refine r_lload_n rfl dX10_leastWorld_37 rfl ?_
          refine r_lconst (v := 1) rfl dX10_leastWorld_38 (by decide) ?_
          refine r_lsub rfl dX10_leastWorld_39 ?_
          refine cl_X10_24 rfl rfl dX10_leastWorld_40 (Nat.le_of_ble_eq_true rfl) s_J13_bitCount_95d88 ?_
          rintro _ _ _ ⟨rfl, rfl, rfl⟩
          refine r_iadd rfl dX10_leastWorld_43 ?_
          subst e56
          exact r_ret dX10_leastWorld_44 (rt_i rfl) ⟨rfl, rfl, (by unfold wsLeast; rw [if_pos c51, if_pos c52, if_pos c53, if_neg c54] <;> rfl)⟩
      · refine r_aload_n rfl dX10_leastWorld_18 rfl ?_
        refine r_getv 0 rfl dX10_leastWorld_19 ba f1 fl_X10_9 rfl ?_
        refine r_iload_n rfl dX10_leastWorld_22 rfl ?_
        refine r_laldv (jn := 2) (v := x2) rfl dX10_leastWorld_23 bq f2 (by unfold vp_in; decide) rfl rfl ?_
        refine r_aload_n rfl dX10_leastWorld_24 rfl ?_
        refine r_getv 0 rfl dX10_leastWorld_25 ba f1 fl_X10_9 rfl ?_
        refine r_iload_n rfl dX10_leastWorld_28 rfl ?_
        refine r_laldv (jn := 2) (v := x2) rfl dX10_leastWorld_29 bq f2 (by unfold vp_in; decide) rfl rfl ?_
        refine r_lneg rfl dX10_leastWorld_30 ?_
        refine r_land rfl dX10_leastWorld_31 ?_
        refine r_topl (fun x57 e58 => ?_)
        refine r_lstore_n (ls' := [some (.ref a), some (.int 2), some (.long x57), none]) rfl dX10_leastWorld_32 (Nat.le_of_ble_eq_true rfl) rfl ?_
        refine r_bipush (v := 64) rfl dX10_leastWorld_33 (by decide) ?_
        refine r_iload_n rfl dX10_leastWorld_35 rfl ?_
        refine r_imul rfl dX10_leastWorld_36 ?_
        refine r_eqi (y := 128) (by decide) ?_
        refine r_lload_n rfl dX10_leastWorld_37 rfl ?_
        refine r_lconst (v := 1) rfl dX10_leastWorld_38 (by decide) ?_
        refine r_lsub rfl dX10_leastWorld_39 ?_
        refine cl_X10_24 rfl rfl dX10_leastWorld_40 (Nat.le_of_ble_eq_true rfl) s_J13_bitCount_95d88 ?_
        rintro _ _ _ ⟨rfl, rfl, rfl⟩
        refine r_iadd rfl dX10_leastWorld_43 ?_
        subst e58
        exact r_ret dX10_leastWorld_44 (rt_i rfl) ⟨rfl, rfl, (by unfold wsLeast; rw [if_pos c51, if_pos c52, if_neg c53] <;> rfl)⟩
    · refine r_aload_n rfl dX10_leastWorld_18 rfl ?_
      refine r_getv 0 rfl dX10_leastWorld_19 ba f1 fl_X10_9 rfl ?_
      refine r_iload_n rfl dX10_leastWorld_22 rfl ?_
      refine r_laldv (jn := 1) (v := x1) rfl dX10_leastWorld_23 bq f2 (by unfold vp_in; decide) rfl rfl ?_
      refine r_aload_n rfl dX10_leastWorld_24 rfl ?_
      refine r_getv 0 rfl dX10_leastWorld_25 ba f1 fl_X10_9 rfl ?_
      refine r_iload_n rfl dX10_leastWorld_28 rfl ?_
      refine r_laldv (jn := 1) (v := x1) rfl dX10_leastWorld_29 bq f2 (by unfold vp_in; decide) rfl rfl ?_
      refine r_lneg rfl dX10_leastWorld_30 ?_
      refine r_land rfl dX10_leastWorld_31 ?_
      refine r_topl (fun x59 e60 => ?_)
      refine r_lstore_n (ls' := [some (.ref a), some (.int 1), some (.long x59), none]) rfl dX10_leastWorld_32 (Nat.le_of_ble_eq_true rfl) rfl ?_
      refine r_bipush (v := 64) rfl dX10_leastWorld_33 (by decide) ?_
      refine r_iload_n rfl dX10_leastWorld_35 rfl ?_
      refine r_imul rfl dX10_leastWorld_36 ?_
      refine r_eqi (y := 64) (by decide) ?_
      refine r_lload_n rfl dX10_leastWorld_37 rfl ?_
      refine r_lconst (v := 1) rfl dX10_leastWorld_38 (by decide) ?_
      refine r_lsub rfl dX10_leastWorld_39 ?_
      refine cl_X10_24 rfl rfl dX10_leastWorld_40 (Nat.le_of_ble_eq_true rfl) s_J13_bitCount_95d88 ?_
      rintro _ _ _ ⟨rfl, rfl, rfl⟩
      refine r_iadd rfl dX10_leastWorld_43 ?_
      subst e60
      exact r_ret dX10_leastWorld_44 (rt_i rfl) ⟨rfl, rfl, (by unfold wsLeast; rw [if_pos c51, if_neg c52] <;> rfl)⟩
  · refine r_aload_n rfl dX10_leastWorld_18 rfl ?_
    refine r_getv 0 rfl dX10_leastWorld_19 ba f1 fl_X10_9 rfl ?_
    refine r_iload_n rfl dX10_leastWorld_22 rfl ?_
    refine r_laldv (jn := 0) (v := x0) rfl dX10_leastWorld_23 bq f2 (by unfold vp_in; decide) rfl rfl ?_
    refine r_aload_n rfl dX10_leastWorld_24 rfl ?_
    refine r_getv 0 rfl dX10_leastWorld_25 ba f1 fl_X10_9 rfl ?_
    refine r_iload_n rfl dX10_leastWorld_28 rfl ?_
    refine r_laldv (jn := 0) (v := x0) rfl dX10_leastWorld_29 bq f2 (by unfold vp_in; decide) rfl rfl ?_
    refine r_lneg rfl dX10_leastWorld_30 ?_
    refine r_land rfl dX10_leastWorld_31 ?_
    refine r_topl (fun x61 e62 => ?_)
    refine r_lstore_n (ls' := [some (.ref a), some (.int 0), some (.long x61), none]) rfl dX10_leastWorld_32 (Nat.le_of_ble_eq_true rfl) rfl ?_
    refine r_bipush (v := 64) rfl dX10_leastWorld_33 (by decide) ?_
    refine r_iload_n rfl dX10_leastWorld_35 rfl ?_
    refine r_imul rfl dX10_leastWorld_36 ?_
    refine r_eqi (y := 0) (by decide) ?_
    refine r_lload_n rfl dX10_leastWorld_37 rfl ?_
    refine r_lconst (v := 1) rfl dX10_leastWorld_38 (by decide) ?_
    refine r_lsub rfl dX10_leastWorld_39 ?_
    refine cl_X10_24 rfl rfl dX10_leastWorld_40 (Nat.le_of_ble_eq_true rfl) s_J13_bitCount_95d88 ?_
    rintro _ _ _ ⟨rfl, rfl, rfl⟩
    refine r_iadd rfl dX10_leastWorld_43 ?_
    subst e62
    exact r_ret dX10_leastWorld_44 (rt_i rfl) ⟨rfl, rfl, (by unfold wsLeast; rw [if_neg c51] <;> rfl)⟩
def ptu (x0 x1 x2 x3 : Int64) (l p : Int32) : Int64 := if p < 0 then (0) else (if p < 4 then (if l < 0 then (if (p ^^^ (1 <<< ((l - 6) &&& 31))) < 0 then (0) else (if (p ^^^ (1 <<< ((l - 6) &&& 31))) < 4 then (sel4 x0 x1 x2 x3 (p ^^^ (1 <<< ((l - 6) &&& 31))).toNatClampNeg) else (0))) else (if 6 ≤ l then (if (p ^^^ (1 <<< ((l - 6) &&& 31))) < 0 then (0) else (if (p ^^^ (1 <<< ((l - 6) &&& 31))) < 4 then (sel4 x0 x1 x2 x3 (p ^^^ (1 <<< ((l - 6) &&& 31))).toNatClampNeg) else (0))) else (((((sel4 x0 x1 x2 x3 p.toNatClampNeg) &&& (ev_so l.toNatClampNeg)).toUInt64 >>> (((1 <<< (l &&& 31)) : Int32).toInt64.toUInt64 &&& Int64.toUInt64 63)).toInt64) ||| (((sel4 x0 x1 x2 x3 p.toNatClampNeg) <<< (((1 <<< (l &&& 31)) : Int32).toInt64 &&& 63)) &&& (ev_so l.toNatClampNeg))))) else (0))
set_option maxRecDepth 20000 in
theorem s_X10_partTurned {xs : Nat → Int32} {L d sz : Nat} {h : ev_H} {a q : Nat} {t : Nat → Int64} {x0 x1 x2 x3 : Int64} {l p : Int32} (hw : isWS h sz a q t x0 x1 x2 x3) : EV xs L (d + 0) 0 0 M_X10_partTurned sz h 0 [some (.ref a), some (.int l), some (.int p), none] [] (fun sz' h' r => sz' = sz ∧ h' = h ∧ r = [.long (ptu x0 x1 x2 x3 l p)]) := by
  obtain ⟨ba, bq, f1, f2⟩ := hw
  refine r_iload_n rfl dX10_partTurned_0 rfl ?_
  refine r_if_lt (tgt := 9) rfl rfl dX10_partTurned_1 (fun c51 => ?_) (fun c51 => ?_)
  · refine r_lconst (v := 0) rfl dX10_partTurned_9 (by decide) ?_
    exact r_ret dX10_partTurned_10 (rt_l rfl) ⟨rfl, rfl, (by unfold ptu; rw [if_pos c51] <;> rfl)⟩
  · refine r_iload_n rfl dX10_partTurned_4 rfl ?_
    refine r_iconst (v := 4) rfl dX10_partTurned_5 (by decide) ?_
    refine r_icmp_lt (tgt := 11) rfl rfl dX10_partTurned_6 (fun c52 => ?_) (fun c52 => ?_)
    · refine r_iload_n rfl dX10_partTurned_11 rfl ?_
      refine r_if_lt (tgt := 57) rfl rfl dX10_partTurned_12 (fun c53 => ?_) (fun c53 => ?_)
      · refine r_iload_n rfl dX10_partTurned_57 rfl ?_
        refine r_iconst (v := 1) rfl dX10_partTurned_58 (by decide) ?_
        refine r_iload_n rfl dX10_partTurned_59 rfl ?_
        refine r_gets rfl dX10_partTurned_60 fs_X10_15 ?_
        refine r_solen rfl dX10_partTurned_63 ?_
        refine r_isub rfl dX10_partTurned_64 ?_
        refine r_ishl rfl dX10_partTurned_65 ?_
        refine r_ixor rfl dX10_partTurned_66 ?_
        refine r_topi (fun x54 e55 => ?_)
        refine r_istore_n (ls' := [some (.ref a), some (.int l), some (.int p), some (.int x54)]) rfl dX10_partTurned_67 (Nat.le_of_ble_eq_true rfl) rfl ?_
        refine r_iload_n rfl dX10_partTurned_68 rfl ?_
        refine r_if_lt (tgt := 77) rfl rfl dX10_partTurned_69 (fun c56 => ?_) (fun c56 => ?_)
        · refine r_lconst (v := 0) rfl dX10_partTurned_77 (by decide) ?_
          refine r_goto (pc' := 87) rfl dX10_partTurned_78 ?_
          subst e55
          exact r_ret dX10_partTurned_87 (rt_l rfl) ⟨rfl, rfl, (by unfold ptu; rw [if_neg c51, if_pos c52, if_pos c53, if_pos c56] <;> rfl)⟩
        · refine r_iload_n rfl dX10_partTurned_72 rfl ?_
          refine r_iconst (v := 4) rfl dX10_partTurned_73 (by decide) ?_
          refine r_icmp_lt (tgt := 81) rfl rfl dX10_partTurned_74 (fun c57 => ?_) (fun c57 => ?_)
          · refine r_aload_n rfl dX10_partTurned_81 rfl ?_
            refine r_getv 0 rfl dX10_partTurned_82 ba f1 fl_X10_9 rfl ?_
            refine r_iload_n rfl dX10_partTurned_85 rfl ?_
            refine r_laldv (jn := x54.toNatClampNeg) (v := sel4 x0 x1 x2 x3 x54.toNatClampNeg) rfl dX10_partTurned_86 bq f2 (vpi2 (m := 4) (by decide) c56 c57) (by first | rfl | assumption) (ws4_s (vp_in_lt (vpi2 (m := 4) (by decide) c56 c57))) ?_
            subst e55
            exact r_ret dX10_partTurned_87 (rt_l rfl) ⟨rfl, rfl, (by unfold ptu; rw [if_neg c51, if_pos c52, if_pos c53, if_neg c56, if_pos c57] <;> rfl)⟩
          · refine r_lconst (v := 0) rfl dX10_partTurned_77 (by decide) ?_
            refine r_goto (pc' := 87) rfl dX10_partTurned_78 ?_
            subst e55
            exact r_ret dX10_partTurned_87 (rt_l rfl) ⟨rfl, rfl, (by unfold ptu; rw [if_neg c51, if_pos c52, if_pos c53, if_neg c56, if_neg c57] <;> rfl)⟩
      · refine r_iload_n rfl dX10_partTurned_15 rfl ?_
        refine r_gets rfl dX10_partTurned_16 fs_X10_15 ?_
        refine r_solen rfl dX10_partTurned_19 ?_
        refine r_icmp_ge (tgt := 57) rfl rfl dX10_partTurned_20 (fun c58 => ?_) (fun c58 => ?_)
        · refine r_iload_n rfl dX10_partTurned_57 rfl ?_
          refine r_iconst (v := 1) rfl dX10_partTurned_58 (by decide) ?_
          refine r_iload_n rfl dX10_partTurned_59 rfl ?_
          refine r_gets rfl dX10_partTurned_60 fs_X10_15 ?_
          refine r_solen rfl dX10_partTurned_63 ?_
          refine r_isub rfl dX10_partTurned_64 ?_
          refine r_ishl rfl dX10_partTurned_65 ?_
          refine r_ixor rfl dX10_partTurned_66 ?_
          refine r_topi (fun x59 e60 => ?_)
          refine r_istore_n (ls' := [some (.ref a), some (.int l), some (.int p), some (.int x59)]) rfl dX10_partTurned_67 (Nat.le_of_ble_eq_true rfl) rfl ?_
          refine r_iload_n rfl dX10_partTurned_68 rfl ?_
          refine r_if_lt (tgt := 77) rfl rfl dX10_partTurned_69 (fun c61 => ?_) (fun c61 => ?_)
          · refine r_lconst (v := 0) rfl dX10_partTurned_77 (by decide) ?_
            refine r_goto (pc' := 87) rfl dX10_partTurned_78 ?_
            subst e60
            exact r_ret dX10_partTurned_87 (rt_l rfl) ⟨rfl, rfl, (by unfold ptu; rw [if_neg c51, if_pos c52, if_neg c53, if_pos c58, if_pos c61] <;> rfl)⟩
          · refine r_iload_n rfl dX10_partTurned_72 rfl ?_
            refine r_iconst (v := 4) rfl dX10_partTurned_73 (by decide) ?_
            refine r_icmp_lt (tgt := 81) rfl rfl dX10_partTurned_74 (fun c62 => ?_) (fun c62 => ?_)
            · refine r_aload_n rfl dX10_partTurned_81 rfl ?_
              refine r_getv 0 rfl dX10_partTurned_82 ba f1 fl_X10_9 rfl ?_
              refine r_iload_n rfl dX10_partTurned_85 rfl ?_
              refine r_laldv (jn := x59.toNatClampNeg) (v := sel4 x0 x1 x2 x3 x59.toNatClampNeg) rfl dX10_partTurned_86 bq f2 (vpi2 (m := 4) (by decide) c61 c62) (by first | rfl | assumption) (ws4_s (vp_in_lt (vpi2 (m := 4) (by decide) c61 c62))) ?_
              subst e60
              exact r_ret dX10_partTurned_87 (rt_l rfl) ⟨rfl, rfl, (by unfold ptu; rw [if_neg c51, if_pos c52, if_neg c53, if_pos c58, if_neg c61, if_pos c62] <;> rfl)⟩
            · refine r_lconst (v := 0) rfl dX10_partTurned_77 (by decide) ?_
              refine r_goto (pc' := 87) rfl dX10_partTurned_78 ?_
              subst e60
              exact r_ret dX10_partTurned_87 (rt_l rfl) ⟨rfl, rfl, (by unfold ptu; rw [if_neg c51, if_pos c52, if_neg c53, if_pos c58, if_neg c61, if_neg c62] <;> rfl)⟩
        · refine r_iconst (v := 1) rfl dX10_partTurned_23 (by decide) ?_
          refine r_iload_n rfl dX10_partTurned_24 rfl ?_
          refine r_ishl rfl dX10_partTurned_25 ?_
          refine r_topi (fun x63 e64 => ?_)
          refine r_istore_n (ls' := [some (.ref a), some (.int l), some (.int p), some (.int x63)]) rfl dX10_partTurned_26 (Nat.le_of_ble_eq_true rfl) rfl ?_
          refine r_aload_n rfl dX10_partTurned_27 rfl ?_
          refine r_getv 0 rfl dX10_partTurned_28 ba f1 fl_X10_9 rfl ?_
          refine r_iload_n rfl dX10_partTurned_31 rfl ?_
          refine r_laldv (jn := p.toNatClampNeg) (v := sel4 x0 x1 x2 x3 p.toNatClampNeg) rfl dX10_partTurned_32 bq f2 (vpi2 (m := 4) (by decide) c51 c52) (by first | rfl | assumption) (ws4_s (vp_in_lt (vpi2 (m := 4) (by decide) c51 c52))) ?_
          refine r_gets rfl dX10_partTurned_33 fs_X10_15 ?_
          refine r_iload_n rfl dX10_partTurned_36 rfl ?_
          refine r_soldv (jn := l.toNatClampNeg) (v := ev_so l.toNatClampNeg) rfl dX10_partTurned_37 (vpi (m := 6) (by decide) c53 c58) (by first | rfl | assumption) rfl ?_
          refine r_land rfl dX10_partTurned_38 ?_
          refine r_iload_n rfl dX10_partTurned_39 rfl ?_
          refine r_lushr rfl dX10_partTurned_40 ?_
          refine r_aload_n rfl dX10_partTurned_41 rfl ?_
          refine r_getv 0 rfl dX10_partTurned_42 ba f1 fl_X10_9 rfl ?_
          refine r_iload_n rfl dX10_partTurned_45 rfl ?_
          refine r_laldv (jn := p.toNatClampNeg) (v := sel4 x0 x1 x2 x3 p.toNatClampNeg) rfl dX10_partTurned_46 bq f2 (vpi2 (m := 4) (by decide) c51 c52) (by first | rfl | assumption) (ws4_s (vp_in_lt (vpi2 (m := 4) (by decide) c51 c52))) ?_
          refine r_iload_n rfl dX10_partTurned_47 rfl ?_
          refine r_lshl rfl dX10_partTurned_48 ?_
          refine r_gets rfl dX10_partTurned_49 fs_X10_15 ?_
          refine r_iload_n rfl dX10_partTurned_52 rfl ?_
          refine r_soldv (jn := l.toNatClampNeg) (v := ev_so l.toNatClampNeg) rfl dX10_partTurned_53 (vpi (m := 6) (by decide) c53 c58) (by first | rfl | assumption) rfl ?_
          refine r_land rfl dX10_partTurned_54 ?_
          refine r_lor rfl dX10_partTurned_55 ?_
          subst e64
          exact r_ret dX10_partTurned_56 (rt_l rfl) ⟨rfl, rfl, (by unfold ptu; rw [if_neg c51, if_pos c52, if_neg c53, if_neg c58] <;> rfl)⟩
    · refine r_lconst (v := 0) rfl dX10_partTurned_9 (by decide) ?_
      exact r_ret dX10_partTurned_10 (rt_l rfl) ⟨rfl, rfl, (by unfold ptu; rw [if_neg c51, if_neg c52] <;> rfl)⟩
def hgo (x0 x1 x2 x3 : Int64) (l : Int32) : Int32 := if (lg_cmp (ptu x0 x1 x2 x3 l 0) x0) = 0 then (if (lg_cmp (ptu x0 x1 x2 x3 l 1) x1) = 0 then (if (lg_cmp (ptu x0 x1 x2 x3 l 2) x2) = 0 then (if (lg_cmp (ptu x0 x1 x2 x3 l 3) x3) = 0 then (0) else (1)) else (1)) else (1)) else (1)
set_option maxRecDepth 20000 in
theorem s_X10_hangsOn {xs : Nat → Int32} {L d sz : Nat} {h : ev_H} {a q : Nat} {t : Nat → Int64} {x0 x1 x2 x3 : Int64} {l : Int32} (hw : isWS h sz a q t x0 x1 x2 x3) : EV xs L (d + 1) 0 0 M_X10_hangsOn sz h 0 [some (.ref a), some (.int l), none] [] (fun sz' h' r => sz' = sz ∧ h' = h ∧ r = [.int (hgo x0 x1 x2 x3 l)]) := by
  obtain ⟨ba, bq, f1, f2⟩ := hw
  refine r_iconst (v := 0) rfl dX10_hangsOn_0 (by decide) ?_
  refine r_istore_n (ls' := [some (.ref a), some (.int l), some (.int 0)]) rfl dX10_hangsOn_1 (Nat.le_of_ble_eq_true rfl) rfl ?_
  refine r_iload_n rfl dX10_hangsOn_2 rfl ?_
  refine r_iconst (v := 4) rfl dX10_hangsOn_3 (by decide) ?_
  refine r_icmp_ge (tgt := 31) rfl rfl dX10_hangsOn_4 (fun c => absurd c (by decide)) (fun _ => ?_)
  refine r_aload_n rfl dX10_hangsOn_7 rfl ?_
  refine r_iload_n rfl dX10_hangsOn_8 rfl ?_
  refine r_iload_n rfl dX10_hangsOn_9 rfl ?_
  refine cl_X10_48 rfl rfl dX10_hangsOn_10 ba.1 ba.2 f1 (Nat.le_of_ble_eq_true rfl) (s_X10_partTurned ⟨ba, bq, f1, f2⟩) ?_
  rintro _ _ _ ⟨rfl, rfl, rfl⟩
  refine r_aload_n rfl dX10_hangsOn_13 rfl ?_
  refine r_getv 0 rfl dX10_hangsOn_14 ba f1 fl_X10_9 rfl ?_
  refine r_iload_n rfl dX10_hangsOn_17 rfl ?_
  refine r_laldv (jn := 0) (v := x0) rfl dX10_hangsOn_18 bq f2 (by unfold vp_in; decide) rfl rfl ?_
  refine r_lcmp rfl dX10_hangsOn_19 ?_
  refine r_if_eq (tgt := 25) rfl rfl dX10_hangsOn_20 (fun c51 => ?_) (fun c51 => ?_)
  · refine r_iinc (y := 1) (ls' := [some (.ref a), some (.int l), some (.int 1)]) rfl dX10_hangsOn_25 rfl (by decide) (Nat.le_of_ble_eq_true rfl) rfl ?_
    refine r_goto (pc' := 2) rfl dX10_hangsOn_28 ?_
    refine r_iload_n rfl dX10_hangsOn_2 rfl ?_
    refine r_iconst (v := 4) rfl dX10_hangsOn_3 (by decide) ?_
    refine r_icmp_ge (tgt := 31) rfl rfl dX10_hangsOn_4 (fun c => absurd c (by decide)) (fun _ => ?_)
    refine r_aload_n rfl dX10_hangsOn_7 rfl ?_
    refine r_iload_n rfl dX10_hangsOn_8 rfl ?_
    refine r_iload_n rfl dX10_hangsOn_9 rfl ?_
    refine cl_X10_48 rfl rfl dX10_hangsOn_10 ba.1 ba.2 f1 (Nat.le_of_ble_eq_true rfl) (s_X10_partTurned ⟨ba, bq, f1, f2⟩) ?_
    rintro _ _ _ ⟨rfl, rfl, rfl⟩
    refine r_aload_n rfl dX10_hangsOn_13 rfl ?_
    refine r_getv 0 rfl dX10_hangsOn_14 ba f1 fl_X10_9 rfl ?_
    refine r_iload_n rfl dX10_hangsOn_17 rfl ?_
    refine r_laldv (jn := 1) (v := x1) rfl dX10_hangsOn_18 bq f2 (by unfold vp_in; decide) rfl rfl ?_
    refine r_lcmp rfl dX10_hangsOn_19 ?_
    refine r_if_eq (tgt := 25) rfl rfl dX10_hangsOn_20 (fun c52 => ?_) (fun c52 => ?_)
    · refine r_iinc (y := 2) (ls' := [some (.ref a), some (.int l), some (.int 2)]) rfl dX10_hangsOn_25 rfl (by decide) (Nat.le_of_ble_eq_true rfl) rfl ?_
      refine r_goto (pc' := 2) rfl dX10_hangsOn_28 ?_
      refine r_iload_n rfl dX10_hangsOn_2 rfl ?_
      refine r_iconst (v := 4) rfl dX10_hangsOn_3 (by decide) ?_
      refine r_icmp_ge (tgt := 31) rfl rfl dX10_hangsOn_4 (fun c => absurd c (by decide)) (fun _ => ?_)
      refine r_aload_n rfl dX10_hangsOn_7 rfl ?_
      refine r_iload_n rfl dX10_hangsOn_8 rfl ?_
      refine r_iload_n rfl dX10_hangsOn_9 rfl ?_
      refine cl_X10_48 rfl rfl dX10_hangsOn_10 ba.1 ba.2 f1 (Nat.le_of_ble_eq_true rfl) (s_X10_partTurned ⟨ba, bq, f1, f2⟩) ?_
      rintro _ _ _ ⟨rfl, rfl, rfl⟩
      refine r_aload_n rfl dX10_hangsOn_13 rfl ?_
      refine r_getv 0 rfl dX10_hangsOn_14 ba f1 fl_X10_9 rfl ?_
      refine r_iload_n rfl dX10_hangsOn_17 rfl ?_
      refine r_laldv (jn := 2) (v := x2) rfl dX10_hangsOn_18 bq f2 (by unfold vp_in; decide) rfl rfl ?_
      refine r_lcmp rfl dX10_hangsOn_19 ?_
      refine r_if_eq (tgt := 25) rfl rfl dX10_hangsOn_20 (fun c53 => ?_) (fun c53 => ?_)
      · refine r_iinc (y := 3) (ls' := [some (.ref a), some (.int l), some (.int 3)]) rfl dX10_hangsOn_25 rfl (by decide) (Nat.le_of_ble_eq_true rfl) rfl ?_
        refine r_goto (pc' := 2) rfl dX10_hangsOn_28 ?_
        refine r_iload_n rfl dX10_hangsOn_2 rfl ?_
        refine r_iconst (v := 4) rfl dX10_hangsOn_3 (by decide) ?_
        refine r_icmp_ge (tgt := 31) rfl rfl dX10_hangsOn_4 (fun c => absurd c (by decide)) (fun _ => ?_)
        refine r_aload_n rfl dX10_hangsOn_7 rfl ?_
        refine r_iload_n rfl dX10_hangsOn_8 rfl ?_
        refine r_iload_n rfl dX10_hangsOn_9 rfl ?_
        refine cl_X10_48 rfl rfl dX10_hangsOn_10 ba.1 ba.2 f1 (Nat.le_of_ble_eq_true rfl) (s_X10_partTurned ⟨ba, bq, f1, f2⟩) ?_
        rintro _ _ _ ⟨rfl, rfl, rfl⟩
        refine r_aload_n rfl dX10_hangsOn_13 rfl ?_
        refine r_getv 0 rfl dX10_hangsOn_14 ba f1 fl_X10_9 rfl ?_
        refine r_iload_n rfl dX10_hangsOn_17 rfl ?_
        refine r_laldv (jn := 3) (v := x3) rfl dX10_hangsOn_18 bq f2 (by unfold vp_in; decide) rfl rfl ?_
        refine r_lcmp rfl dX10_hangsOn_19 ?_
        refine r_if_eq (tgt := 25) rfl rfl dX10_hangsOn_20 (fun c54 => ?_) (fun c54 => ?_)
        · refine r_iinc (y := 4) (ls' := [some (.ref a), some (.int l), some (.int 4)]) rfl dX10_hangsOn_25 rfl (by decide) (Nat.le_of_ble_eq_true rfl) rfl ?_
          refine r_goto (pc' := 2) rfl dX10_hangsOn_28 ?_
          refine r_iload_n rfl dX10_hangsOn_2 rfl ?_
          refine r_iconst (v := 4) rfl dX10_hangsOn_3 (by decide) ?_
          refine r_icmp_ge (tgt := 31) rfl rfl dX10_hangsOn_4 (fun _ => ?_) (fun c => absurd c (by decide))
          refine r_iconst (v := 0) rfl dX10_hangsOn_31 (by decide) ?_
          exact r_ret dX10_hangsOn_32 (rt_z rfl (Or.inl rfl)) ⟨rfl, rfl, (by unfold hgo; rw [if_pos c51, if_pos c52, if_pos c53, if_pos c54] <;> rfl)⟩
        · refine r_iconst (v := 1) rfl dX10_hangsOn_23 (by decide) ?_
          exact r_ret dX10_hangsOn_24 (rt_z rfl (Or.inr rfl)) ⟨rfl, rfl, (by unfold hgo; rw [if_pos c51, if_pos c52, if_pos c53, if_neg c54] <;> rfl)⟩
      · refine r_iconst (v := 1) rfl dX10_hangsOn_23 (by decide) ?_
        exact r_ret dX10_hangsOn_24 (rt_z rfl (Or.inr rfl)) ⟨rfl, rfl, (by unfold hgo; rw [if_pos c51, if_pos c52, if_neg c53] <;> rfl)⟩
    · refine r_iconst (v := 1) rfl dX10_hangsOn_23 (by decide) ?_
      exact r_ret dX10_hangsOn_24 (rt_z rfl (Or.inr rfl)) ⟨rfl, rfl, (by unfold hgo; rw [if_pos c51, if_neg c52] <;> rfl)⟩
  · refine r_iconst (v := 1) rfl dX10_hangsOn_23 (by decide) ?_
    exact r_ret dX10_hangsOn_24 (rt_z rfl (Or.inr rfl)) ⟨rfl, rfl, (by unfold hgo; rw [if_neg c51] <;> rfl)⟩
def spr0 (x0 x1 x2 x3 : Int64) (l : Int32) : Int64 := x0 ||| ptu x0 x1 x2 x3 l 0
def spr1 (x0 x1 x2 x3 : Int64) (l : Int32) : Int64 := x1 ||| ptu (spr0 x0 x1 x2 x3 l) x1 x2 x3 l 1
def spr2 (x0 x1 x2 x3 : Int64) (l : Int32) : Int64 := x2 ||| ptu (spr0 x0 x1 x2 x3 l) (spr1 x0 x1 x2 x3 l) x2 x3 l 2
def spr3 (x0 x1 x2 x3 : Int64) (l : Int32) : Int64 := x3 ||| ptu (spr0 x0 x1 x2 x3 l) (spr1 x0 x1 x2 x3 l) (spr2 x0 x1 x2 x3 l) x3 l 3
set_option maxRecDepth 20000 in
theorem s_X10_spread {xs : Nat → Int32} {L d sz : Nat} {h : ev_H} {a q : Nat} {t : Nat → Int64} {x0 x1 x2 x3 : Int64} {l : Int32} (hw : isWS h sz a q t x0 x1 x2 x3) : EV xs L (d + 1) 0 0 M_X10_spread sz h 0 [some (.ref a), some (.int l), none] [] (fun sz' h' r => sz' = sz ∧ h' = va_up h q (.inl (1, 4, .inr (.inl (ws4 t (spr0 x0 x1 x2 x3 l) (spr1 x0 x1 x2 x3 l) (spr2 x0 x1 x2 x3 l) (spr3 x0 x1 x2 x3 l))))) ∧ r = []) := by
  obtain ⟨ba, bq, f1, f2⟩ := hw
  refine r_iconst (v := 0) rfl dX10_spread_0 (by decide) ?_
  refine r_istore_n (ls' := [some (.ref a), some (.int l), some (.int 0)]) rfl dX10_spread_1 (Nat.le_of_ble_eq_true rfl) rfl ?_
  refine r_iload_n rfl dX10_spread_2 rfl ?_
  refine r_iconst (v := 4) rfl dX10_spread_3 (by decide) ?_
  refine r_icmp_ge (tgt := 28) rfl rfl dX10_spread_4 (fun c => absurd c (by decide)) (fun _ => ?_)
  refine r_aload_n rfl dX10_spread_7 rfl ?_
  refine r_getv 0 rfl dX10_spread_8 ba f1 fl_X10_9 rfl ?_
  refine r_iload_n rfl dX10_spread_11 rfl ?_
  refine r_dup2 rfl dX10_spread_12 (by intro q; cases q) (by intro q; cases q) ?_
  refine r_laldv (jn := 0) (v := x0) rfl dX10_spread_13 bq f2 (by unfold vp_in; decide) rfl rfl ?_
  refine r_aload_n rfl dX10_spread_14 rfl ?_
  refine r_iload_n rfl dX10_spread_15 rfl ?_
  refine r_iload_n rfl dX10_spread_16 rfl ?_
  refine cl_X10_48 rfl rfl dX10_spread_17 ba.1 ba.2 f1 (Nat.le_of_ble_eq_true rfl) (s_X10_partTurned ⟨ba, bq, f1, f2⟩) ?_
  rintro _ _ _ ⟨rfl, rfl, rfl⟩
  refine r_lor rfl dX10_spread_20 ?_
  refine r_topl (fun x51 e52 => ?_)
  refine r_lastv (jn := 0) (f' := ws4 t x51 x1 x2 x3) rfl dX10_spread_21 bq f2 (by unfold vp_in; decide) rfl (ws4_u0 _ _ _ _ _ _) (fun h53 eh54 => ?_)
  have f55 : h53 q = .inl (1, 4, .inr (.inl (ws4 t x51 x1 x2 x3))) := by rw [eh54]; exact va_up_self _ _ _
  have f56 : h53 a = .inr (10, [.ref q]) := by rw [eh54, va_up_ne _ _ (fun q => by rw [q, f2] at f1; cases f1)]; exact f1
  refine r_iinc (y := 1) (ls' := [some (.ref a), some (.int l), some (.int 1)]) rfl dX10_spread_22 rfl (by decide) (Nat.le_of_ble_eq_true rfl) rfl ?_
  refine r_goto (pc' := 2) rfl dX10_spread_25 ?_
  refine r_iload_n rfl dX10_spread_2 rfl ?_
  refine r_iconst (v := 4) rfl dX10_spread_3 (by decide) ?_
  refine r_icmp_ge (tgt := 28) rfl rfl dX10_spread_4 (fun c => absurd c (by decide)) (fun _ => ?_)
  refine r_aload_n rfl dX10_spread_7 rfl ?_
  refine r_getv 0 rfl dX10_spread_8 ba f56 fl_X10_9 rfl ?_
  refine r_iload_n rfl dX10_spread_11 rfl ?_
  refine r_dup2 rfl dX10_spread_12 (by intro q; cases q) (by intro q; cases q) ?_
  refine r_laldv (jn := 1) (v := x1) rfl dX10_spread_13 bq f55 (by unfold vp_in; decide) rfl rfl ?_
  refine r_aload_n rfl dX10_spread_14 rfl ?_
  refine r_iload_n rfl dX10_spread_15 rfl ?_
  refine r_iload_n rfl dX10_spread_16 rfl ?_
  refine cl_X10_48 rfl rfl dX10_spread_17 ba.1 ba.2 f56 (Nat.le_of_ble_eq_true rfl) (s_X10_partTurned ⟨ba, bq, f56, f55⟩) ?_
  rintro _ _ _ ⟨rfl, rfl, rfl⟩
  refine r_lor rfl dX10_spread_20 ?_
  refine r_topl (fun x57 e58 => ?_)
  refine r_lastv (jn := 1) (f' := ws4 t x51 x57 x2 x3) rfl dX10_spread_21 bq f55 (by unfold vp_in; decide) rfl (ws4_u1 _ _ _ _ _ _) (fun h59 eh60 => ?_)
  have f61 : h59 q = .inl (1, 4, .inr (.inl (ws4 t x51 x57 x2 x3))) := by rw [eh60]; exact va_up_self _ _ _
  have f62 : h59 a = .inr (10, [.ref q]) := by rw [eh60, va_up_ne _ _ (fun q => by rw [q, f55] at f56; cases f56)]; exact f56
  refine r_iinc (y := 2) (ls' := [some (.ref a), some (.int l), some (.int 2)]) rfl dX10_spread_22 rfl (by decide) (Nat.le_of_ble_eq_true rfl) rfl ?_
  refine r_goto (pc' := 2) rfl dX10_spread_25 ?_
  refine r_iload_n rfl dX10_spread_2 rfl ?_
  refine r_iconst (v := 4) rfl dX10_spread_3 (by decide) ?_
  refine r_icmp_ge (tgt := 28) rfl rfl dX10_spread_4 (fun c => absurd c (by decide)) (fun _ => ?_)
  refine r_aload_n rfl dX10_spread_7 rfl ?_
  refine r_getv 0 rfl dX10_spread_8 ba f62 fl_X10_9 rfl ?_
  refine r_iload_n rfl dX10_spread_11 rfl ?_
  refine r_dup2 rfl dX10_spread_12 (by intro q; cases q) (by intro q; cases q) ?_
  refine r_laldv (jn := 2) (v := x2) rfl dX10_spread_13 bq f61 (by unfold vp_in; decide) rfl rfl ?_
  refine r_aload_n rfl dX10_spread_14 rfl ?_
  refine r_iload_n rfl dX10_spread_15 rfl ?_
  refine r_iload_n rfl dX10_spread_16 rfl ?_
  refine cl_X10_48 rfl rfl dX10_spread_17 ba.1 ba.2 f62 (Nat.le_of_ble_eq_true rfl) (s_X10_partTurned ⟨ba, bq, f62, f61⟩) ?_
  rintro _ _ _ ⟨rfl, rfl, rfl⟩
  refine r_lor rfl dX10_spread_20 ?_
  refine r_topl (fun x63 e64 => ?_)
  refine r_lastv (jn := 2) (f' := ws4 t x51 x57 x63 x3) rfl dX10_spread_21 bq f61 (by unfold vp_in; decide) rfl (ws4_u2 _ _ _ _ _ _) (fun h65 eh66 => ?_)
  have f67 : h65 q = .inl (1, 4, .inr (.inl (ws4 t x51 x57 x63 x3))) := by rw [eh66]; exact va_up_self _ _ _
  have f68 : h65 a = .inr (10, [.ref q]) := by rw [eh66, va_up_ne _ _ (fun q => by rw [q, f61] at f62; cases f62)]; exact f62
  refine r_iinc (y := 3) (ls' := [some (.ref a), some (.int l), some (.int 3)]) rfl dX10_spread_22 rfl (by decide) (Nat.le_of_ble_eq_true rfl) rfl ?_
  refine r_goto (pc' := 2) rfl dX10_spread_25 ?_
  refine r_iload_n rfl dX10_spread_2 rfl ?_
  refine r_iconst (v := 4) rfl dX10_spread_3 (by decide) ?_
  refine r_icmp_ge (tgt := 28) rfl rfl dX10_spread_4 (fun c => absurd c (by decide)) (fun _ => ?_)
  refine r_aload_n rfl dX10_spread_7 rfl ?_
  refine r_getv 0 rfl dX10_spread_8 ba f68 fl_X10_9 rfl ?_
  refine r_iload_n rfl dX10_spread_11 rfl ?_
  refine r_dup2 rfl dX10_spread_12 (by intro q; cases q) (by intro q; cases q) ?_
  refine r_laldv (jn := 3) (v := x3) rfl dX10_spread_13 bq f67 (by unfold vp_in; decide) rfl rfl ?_
  refine r_aload_n rfl dX10_spread_14 rfl ?_
  refine r_iload_n rfl dX10_spread_15 rfl ?_
  refine r_iload_n rfl dX10_spread_16 rfl ?_
  refine cl_X10_48 rfl rfl dX10_spread_17 ba.1 ba.2 f68 (Nat.le_of_ble_eq_true rfl) (s_X10_partTurned ⟨ba, bq, f68, f67⟩) ?_
  rintro _ _ _ ⟨rfl, rfl, rfl⟩
  refine r_lor rfl dX10_spread_20 ?_
  refine r_topl (fun x69 e70 => ?_)
  refine r_lastv (jn := 3) (f' := ws4 t x51 x57 x63 x69) rfl dX10_spread_21 bq f67 (by unfold vp_in; decide) rfl (ws4_u3 _ _ _ _ _ _) (fun h71 eh72 => ?_)
  have f73 : h71 q = .inl (1, 4, .inr (.inl (ws4 t x51 x57 x63 x69))) := by rw [eh72]; exact va_up_self _ _ _
  have f74 : h71 a = .inr (10, [.ref q]) := by rw [eh72, va_up_ne _ _ (fun q => by rw [q, f67] at f68; cases f68)]; exact f68
  refine r_iinc (y := 4) (ls' := [some (.ref a), some (.int l), some (.int 4)]) rfl dX10_spread_22 rfl (by decide) (Nat.le_of_ble_eq_true rfl) rfl ?_
  refine r_goto (pc' := 2) rfl dX10_spread_25 ?_
  refine r_iload_n rfl dX10_spread_2 rfl ?_
  refine r_iconst (v := 4) rfl dX10_spread_3 (by decide) ?_
  refine r_icmp_ge (tgt := 28) rfl rfl dX10_spread_4 (fun _ => ?_) (fun c => absurd c (by decide))
  subst e70
  subst e64
  subst e58
  subst e52
  subst eh72
  subst eh66
  subst eh60
  subst eh54
  exact r_ret dX10_spread_28 (rt_v rfl) ⟨rfl, (by first | (simp only [va_up_up]; done) | (simp only [va_up_up]; rfl) | rfl), rfl⟩
set_option maxRecDepth 20000 in
theorem s_X10_joinWhere {xs : Nat → Int32} {L d sz : Nat} {h : ev_H} {a q : Nat} {t : Nat → Int64} {x0 x1 x2 x3 : Int64} {l so : Int32} (hw : isWS h sz a q t x0 x1 x2 x3) : EV xs L (d + 1) 0 0 M_X10_joinWhere sz h 0 [some (.ref a), some (.int l), some (.int so), none, none, none] [] (fun sz' h' r => sz' = sz ∧ h' = va_up h q (.inl (1, 4, .inr (.inl (ws4 t (x0 ||| (if so = 0 then pws l 0 ^^^ (-1) else pws l 0)) (x1 ||| (if so = 0 then pws l 1 ^^^ (-1) else pws l 1)) (x2 ||| (if so = 0 then pws l 2 ^^^ (-1) else pws l 2)) (x3 ||| (if so = 0 then pws l 3 ^^^ (-1) else pws l 3)))))) ∧ r = []) := by
  obtain ⟨ba, bq, f1, f2⟩ := hw
  refine r_iconst (v := 0) rfl dX10_joinWhere_0 (by decide) ?_
  refine r_istore_n (ls' := [some (.ref a), some (.int l), some (.int so), some (.int 0), none, none]) rfl dX10_joinWhere_1 (Nat.le_of_ble_eq_true rfl) rfl ?_
  refine r_iload_n rfl dX10_joinWhere_2 rfl ?_
  refine r_iconst (v := 4) rfl dX10_joinWhere_3 (by decide) ?_
  refine r_icmp_ge (tgt := 44) rfl rfl dX10_joinWhere_4 (fun c => absurd c (by decide)) (fun _ => ?_)
  refine r_iload_n rfl dX10_joinWhere_7 rfl ?_
  refine r_iload_n rfl dX10_joinWhere_8 rfl ?_
  refine cl_X10_44 rfl rfl dX10_joinWhere_9 (Nat.le_of_ble_eq_true rfl) s_X10_partWhereSo ?_
  rintro _ _ _ ⟨rfl, rfl, rfl⟩
  refine r_topl (fun x51 e52 => ?_)
  refine r_lstore (ls' := [some (.ref a), some (.int l), some (.int so), some (.int 0), some (.long x51), none]) rfl dX10_joinWhere_12 (Nat.le_of_ble_eq_true rfl) rfl ?_
  refine r_aload_n rfl dX10_joinWhere_14 rfl ?_
  refine r_getv 0 rfl dX10_joinWhere_15 ba f1 fl_X10_9 rfl ?_
  refine r_iload_n rfl dX10_joinWhere_18 rfl ?_
  refine r_dup2 rfl dX10_joinWhere_19 (by intro q; cases q) (by intro q; cases q) ?_
  refine r_laldv (jn := 0) (v := x0) rfl dX10_joinWhere_20 bq f2 (by unfold vp_in; decide) rfl rfl ?_
  refine r_iload_n rfl dX10_joinWhere_21 rfl ?_
  refine r_if_eq (tgt := 30) rfl rfl dX10_joinWhere_22 (fun c53 => ?_) (fun c53 => ?_)
  · refine r_lload rfl dX10_joinWhere_30 rfl ?_
    refine r_ldc2 (v := (-1)) rfl dX10_joinWhere_32 lc_X10_18 ?_
    refine r_lxor rfl dX10_joinWhere_35 ?_
    refine r_lor rfl dX10_joinWhere_36 ?_
    refine r_topl (fun x54 e55 => ?_)
    refine r_lastv (jn := 0) (f' := ws4 t x54 x1 x2 x3) rfl dX10_joinWhere_37 bq f2 (by unfold vp_in; decide) rfl (ws4_u0 _ _ _ _ _ _) (fun h56 eh57 => ?_)
    have f58 : h56 q = .inl (1, 4, .inr (.inl (ws4 t x54 x1 x2 x3))) := by rw [eh57]; exact va_up_self _ _ _
    have f59 : h56 a = .inr (10, [.ref q]) := by rw [eh57, va_up_ne _ _ (fun q => by rw [q, f2] at f1; cases f1)]; exact f1
    refine r_iinc (y := 1) (ls' := [some (.ref a), some (.int l), some (.int so), some (.int 1), some (.long x51), none]) rfl dX10_joinWhere_38 rfl (by decide) (Nat.le_of_ble_eq_true rfl) rfl ?_
    refine r_goto (pc' := 2) rfl dX10_joinWhere_41 ?_
    refine r_iload_n rfl dX10_joinWhere_2 rfl ?_
    refine r_iconst (v := 4) rfl dX10_joinWhere_3 (by decide) ?_
    refine r_icmp_ge (tgt := 44) rfl rfl dX10_joinWhere_4 (fun c => absurd c (by decide)) (fun _ => ?_)
    refine r_iload_n rfl dX10_joinWhere_7 rfl ?_
    refine r_iload_n rfl dX10_joinWhere_8 rfl ?_
    refine cl_X10_44 rfl rfl dX10_joinWhere_9 (Nat.le_of_ble_eq_true rfl) s_X10_partWhereSo ?_
    rintro _ _ _ ⟨rfl, rfl, rfl⟩
    refine r_topl (fun x60 e61 => ?_)
    refine r_lstore (ls' := [some (.ref a), some (.int l), some (.int so), some (.int 1), some (.long x60), none]) rfl dX10_joinWhere_12 (Nat.le_of_ble_eq_true rfl) rfl ?_
    refine r_aload_n rfl dX10_joinWhere_14 rfl ?_
    refine r_getv 0 rfl dX10_joinWhere_15 ba f59 fl_X10_9 rfl ?_
    refine r_iload_n rfl dX10_joinWhere_18 rfl ?_
    refine r_dup2 rfl dX10_joinWhere_19 (by intro q; cases q) (by intro q; cases q) ?_
    refine r_laldv (jn := 1) (v := x1) rfl dX10_joinWhere_20 bq f58 (by unfold vp_in; decide) rfl rfl ?_
    refine r_iload_n rfl dX10_joinWhere_21 rfl ?_
    refine r_if_eq (tgt := 30) rfl rfl dX10_joinWhere_22 (fun _ => ?_) (fun c => absurd c (by first | exact c53 | exact fun z => z c53))
    refine r_lload rfl dX10_joinWhere_30 rfl ?_
    refine r_ldc2 (v := (-1)) rfl dX10_joinWhere_32 lc_X10_18 ?_
    refine r_lxor rfl dX10_joinWhere_35 ?_
    refine r_lor rfl dX10_joinWhere_36 ?_
    refine r_topl (fun x62 e63 => ?_)
    refine r_lastv (jn := 1) (f' := ws4 t x54 x62 x2 x3) rfl dX10_joinWhere_37 bq f58 (by unfold vp_in; decide) rfl (ws4_u1 _ _ _ _ _ _) (fun h64 eh65 => ?_)
    have f66 : h64 q = .inl (1, 4, .inr (.inl (ws4 t x54 x62 x2 x3))) := by rw [eh65]; exact va_up_self _ _ _
    have f67 : h64 a = .inr (10, [.ref q]) := by rw [eh65, va_up_ne _ _ (fun q => by rw [q, f58] at f59; cases f59)]; exact f59
    refine r_iinc (y := 2) (ls' := [some (.ref a), some (.int l), some (.int so), some (.int 2), some (.long x60), none]) rfl dX10_joinWhere_38 rfl (by decide) (Nat.le_of_ble_eq_true rfl) rfl ?_
    refine r_goto (pc' := 2) rfl dX10_joinWhere_41 ?_
    refine r_iload_n rfl dX10_joinWhere_2 rfl ?_
    refine r_iconst (v := 4) rfl dX10_joinWhere_3 (by decide) ?_
    refine r_icmp_ge (tgt := 44) rfl rfl dX10_joinWhere_4 (fun c => absurd c (by decide)) (fun _ => ?_)
    refine r_iload_n rfl dX10_joinWhere_7 rfl ?_
    refine r_iload_n rfl dX10_joinWhere_8 rfl ?_
    refine cl_X10_44 rfl rfl dX10_joinWhere_9 (Nat.le_of_ble_eq_true rfl) s_X10_partWhereSo ?_
    rintro _ _ _ ⟨rfl, rfl, rfl⟩
    refine r_topl (fun x68 e69 => ?_)
    refine r_lstore (ls' := [some (.ref a), some (.int l), some (.int so), some (.int 2), some (.long x68), none]) rfl dX10_joinWhere_12 (Nat.le_of_ble_eq_true rfl) rfl ?_
    refine r_aload_n rfl dX10_joinWhere_14 rfl ?_
    refine r_getv 0 rfl dX10_joinWhere_15 ba f67 fl_X10_9 rfl ?_
    refine r_iload_n rfl dX10_joinWhere_18 rfl ?_
    refine r_dup2 rfl dX10_joinWhere_19 (by intro q; cases q) (by intro q; cases q) ?_
    refine r_laldv (jn := 2) (v := x2) rfl dX10_joinWhere_20 bq f66 (by unfold vp_in; decide) rfl rfl ?_
    refine r_iload_n rfl dX10_joinWhere_21 rfl ?_
    refine r_if_eq (tgt := 30) rfl rfl dX10_joinWhere_22 (fun _ => ?_) (fun c => absurd c (by first | exact c53 | exact fun z => z c53))
    refine r_lload rfl dX10_joinWhere_30 rfl ?_
    refine r_ldc2 (v := (-1)) rfl dX10_joinWhere_32 lc_X10_18 ?_
    refine r_lxor rfl dX10_joinWhere_35 ?_
    refine r_lor rfl dX10_joinWhere_36 ?_
    refine r_topl (fun x70 e71 => ?_)
    refine r_lastv (jn := 2) (f' := ws4 t x54 x62 x70 x3) rfl dX10_joinWhere_37 bq f66 (by unfold vp_in; decide) rfl (ws4_u2 _ _ _ _ _ _) (fun h72 eh73 => ?_)
    have f74 : h72 q = .inl (1, 4, .inr (.inl (ws4 t x54 x62 x70 x3))) := by rw [eh73]; exact va_up_self _ _ _
    have f75 : h72 a = .inr (10, [.ref q]) := by rw [eh73, va_up_ne _ _ (fun q => by rw [q, f66] at f67; cases f67)]; exact f67
    refine r_iinc (y := 3) (ls' := [some (.ref a), some (.int l), some (.int so), some (.int 3), some (.long x68), none]) rfl dX10_joinWhere_38 rfl (by decide) (Nat.le_of_ble_eq_true rfl) rfl ?_
    refine r_goto (pc' := 2) rfl dX10_joinWhere_41 ?_
    refine r_iload_n rfl dX10_joinWhere_2 rfl ?_
    refine r_iconst (v := 4) rfl dX10_joinWhere_3 (by decide) ?_
    refine r_icmp_ge (tgt := 44) rfl rfl dX10_joinWhere_4 (fun c => absurd c (by decide)) (fun _ => ?_)
    refine r_iload_n rfl dX10_joinWhere_7 rfl ?_
    refine r_iload_n rfl dX10_joinWhere_8 rfl ?_
    refine cl_X10_44 rfl rfl dX10_joinWhere_9 (Nat.le_of_ble_eq_true rfl) s_X10_partWhereSo ?_
    rintro _ _ _ ⟨rfl, rfl, rfl⟩
    refine r_topl (fun x76 e77 => ?_)
    refine r_lstore (ls' := [some (.ref a), some (.int l), some (.int so), some (.int 3), some (.long x76), none]) rfl dX10_joinWhere_12 (Nat.le_of_ble_eq_true rfl) rfl ?_
    refine r_aload_n rfl dX10_joinWhere_14 rfl ?_
    refine r_getv 0 rfl dX10_joinWhere_15 ba f75 fl_X10_9 rfl ?_
    refine r_iload_n rfl dX10_joinWhere_18 rfl ?_
    refine r_dup2 rfl dX10_joinWhere_19 (by intro q; cases q) (by intro q; cases q) ?_
    refine r_laldv (jn := 3) (v := x3) rfl dX10_joinWhere_20 bq f74 (by unfold vp_in; decide) rfl rfl ?_
    refine r_iload_n rfl dX10_joinWhere_21 rfl ?_
    refine r_if_eq (tgt := 30) rfl rfl dX10_joinWhere_22 (fun _ => ?_) (fun c => absurd c (by first | exact c53 | exact fun z => z c53))
    refine r_lload rfl dX10_joinWhere_30 rfl ?_
    refine r_ldc2 (v := (-1)) rfl dX10_joinWhere_32 lc_X10_18 ?_
    refine r_lxor rfl dX10_joinWhere_35 ?_
    refine r_lor rfl dX10_joinWhere_36 ?_
    refine r_topl (fun x78 e79 => ?_)
    refine r_lastv (jn := 3) (f' := ws4 t x54 x62 x70 x78) rfl dX10_joinWhere_37 bq f74 (by unfold vp_in; decide) rfl (ws4_u3 _ _ _ _ _ _) (fun h80 eh81 => ?_)
    have f82 : h80 q = .inl (1, 4, .inr (.inl (ws4 t x54 x62 x70 x78))) := by rw [eh81]; exact va_up_self _ _ _
    have f83 : h80 a = .inr (10, [.ref q]) := by rw [eh81, va_up_ne _ _ (fun q => by rw [q, f74] at f75; cases f75)]; exact f75
    refine r_iinc (y := 4) (ls' := [some (.ref a), some (.int l), some (.int so), some (.int 4), some (.long x76), none]) rfl dX10_joinWhere_38 rfl (by decide) (Nat.le_of_ble_eq_true rfl) rfl ?_
    refine r_goto (pc' := 2) rfl dX10_joinWhere_41 ?_
    refine r_iload_n rfl dX10_joinWhere_2 rfl ?_
    refine r_iconst (v := 4) rfl dX10_joinWhere_3 (by decide) ?_
    refine r_icmp_ge (tgt := 44) rfl rfl dX10_joinWhere_4 (fun _ => ?_) (fun c => absurd c (by decide))
    subst e79
    subst e77
    subst e71
    subst e69
    subst e63
    subst e61
    subst e55
    subst e52
    subst eh81
    subst eh73
    subst eh65
    subst eh57
    exact r_ret dX10_joinWhere_44 (rt_v rfl) ⟨rfl, (by simp only [va_up_up, c53, if_true, if_false]), rfl⟩
  · refine r_lload rfl dX10_joinWhere_25 rfl ?_
    refine r_goto (pc' := 36) rfl dX10_joinWhere_27 ?_
    refine r_lor rfl dX10_joinWhere_36 ?_
    refine r_topl (fun x84 e85 => ?_)
    refine r_lastv (jn := 0) (f' := ws4 t x84 x1 x2 x3) rfl dX10_joinWhere_37 bq f2 (by unfold vp_in; decide) rfl (ws4_u0 _ _ _ _ _ _) (fun h86 eh87 => ?_)
    have f88 : h86 q = .inl (1, 4, .inr (.inl (ws4 t x84 x1 x2 x3))) := by rw [eh87]; exact va_up_self _ _ _
    have f89 : h86 a = .inr (10, [.ref q]) := by rw [eh87, va_up_ne _ _ (fun q => by rw [q, f2] at f1; cases f1)]; exact f1
    refine r_iinc (y := 1) (ls' := [some (.ref a), some (.int l), some (.int so), some (.int 1), some (.long x51), none]) rfl dX10_joinWhere_38 rfl (by decide) (Nat.le_of_ble_eq_true rfl) rfl ?_
    refine r_goto (pc' := 2) rfl dX10_joinWhere_41 ?_
    refine r_iload_n rfl dX10_joinWhere_2 rfl ?_
    refine r_iconst (v := 4) rfl dX10_joinWhere_3 (by decide) ?_
    refine r_icmp_ge (tgt := 44) rfl rfl dX10_joinWhere_4 (fun c => absurd c (by decide)) (fun _ => ?_)
    refine r_iload_n rfl dX10_joinWhere_7 rfl ?_
    refine r_iload_n rfl dX10_joinWhere_8 rfl ?_
    refine cl_X10_44 rfl rfl dX10_joinWhere_9 (Nat.le_of_ble_eq_true rfl) s_X10_partWhereSo ?_
    rintro _ _ _ ⟨rfl, rfl, rfl⟩
    refine r_topl (fun x90 e91 => ?_)
    refine r_lstore (ls' := [some (.ref a), some (.int l), some (.int so), some (.int 1), some (.long x90), none]) rfl dX10_joinWhere_12 (Nat.le_of_ble_eq_true rfl) rfl ?_
    refine r_aload_n rfl dX10_joinWhere_14 rfl ?_
    refine r_getv 0 rfl dX10_joinWhere_15 ba f89 fl_X10_9 rfl ?_
    refine r_iload_n rfl dX10_joinWhere_18 rfl ?_
    refine r_dup2 rfl dX10_joinWhere_19 (by intro q; cases q) (by intro q; cases q) ?_
    refine r_laldv (jn := 1) (v := x1) rfl dX10_joinWhere_20 bq f88 (by unfold vp_in; decide) rfl rfl ?_
    refine r_iload_n rfl dX10_joinWhere_21 rfl ?_
    refine r_if_eq (tgt := 30) rfl rfl dX10_joinWhere_22 (fun c => absurd c (by first | exact c53 | exact fun z => z c53)) (fun _ => ?_)
    refine r_lload rfl dX10_joinWhere_25 rfl ?_
    refine r_goto (pc' := 36) rfl dX10_joinWhere_27 ?_
    refine r_lor rfl dX10_joinWhere_36 ?_
    refine r_topl (fun x92 e93 => ?_)
    refine r_lastv (jn := 1) (f' := ws4 t x84 x92 x2 x3) rfl dX10_joinWhere_37 bq f88 (by unfold vp_in; decide) rfl (ws4_u1 _ _ _ _ _ _) (fun h94 eh95 => ?_)
    have f96 : h94 q = .inl (1, 4, .inr (.inl (ws4 t x84 x92 x2 x3))) := by rw [eh95]; exact va_up_self _ _ _
    have f97 : h94 a = .inr (10, [.ref q]) := by rw [eh95, va_up_ne _ _ (fun q => by rw [q, f88] at f89; cases f89)]; exact f89
    refine r_iinc (y := 2) (ls' := [some (.ref a), some (.int l), some (.int so), some (.int 2), some (.long x90), none]) rfl dX10_joinWhere_38 rfl (by decide) (Nat.le_of_ble_eq_true rfl) rfl ?_
    refine r_goto (pc' := 2) rfl dX10_joinWhere_41 ?_
    refine r_iload_n rfl dX10_joinWhere_2 rfl ?_
    refine r_iconst (v := 4) rfl dX10_joinWhere_3 (by decide) ?_
    refine r_icmp_ge (tgt := 44) rfl rfl dX10_joinWhere_4 (fun c => absurd c (by decide)) (fun _ => ?_)
    refine r_iload_n rfl dX10_joinWhere_7 rfl ?_
    refine r_iload_n rfl dX10_joinWhere_8 rfl ?_
    refine cl_X10_44 rfl rfl dX10_joinWhere_9 (Nat.le_of_ble_eq_true rfl) s_X10_partWhereSo ?_
    rintro _ _ _ ⟨rfl, rfl, rfl⟩
    refine r_topl (fun x98 e99 => ?_)
    refine r_lstore (ls' := [some (.ref a), some (.int l), some (.int so), some (.int 2), some (.long x98), none]) rfl dX10_joinWhere_12 (Nat.le_of_ble_eq_true rfl) rfl ?_
    refine r_aload_n rfl dX10_joinWhere_14 rfl ?_
    refine r_getv 0 rfl dX10_joinWhere_15 ba f97 fl_X10_9 rfl ?_
    refine r_iload_n rfl dX10_joinWhere_18 rfl ?_
    refine r_dup2 rfl dX10_joinWhere_19 (by intro q; cases q) (by intro q; cases q) ?_
    refine r_laldv (jn := 2) (v := x2) rfl dX10_joinWhere_20 bq f96 (by unfold vp_in; decide) rfl rfl ?_
    refine r_iload_n rfl dX10_joinWhere_21 rfl ?_
    refine r_if_eq (tgt := 30) rfl rfl dX10_joinWhere_22 (fun c => absurd c (by first | exact c53 | exact fun z => z c53)) (fun _ => ?_)
    refine r_lload rfl dX10_joinWhere_25 rfl ?_
    refine r_goto (pc' := 36) rfl dX10_joinWhere_27 ?_
    refine r_lor rfl dX10_joinWhere_36 ?_
    refine r_topl (fun x100 e101 => ?_)
    refine r_lastv (jn := 2) (f' := ws4 t x84 x92 x100 x3) rfl dX10_joinWhere_37 bq f96 (by unfold vp_in; decide) rfl (ws4_u2 _ _ _ _ _ _) (fun h102 eh103 => ?_)
    have f104 : h102 q = .inl (1, 4, .inr (.inl (ws4 t x84 x92 x100 x3))) := by rw [eh103]; exact va_up_self _ _ _
    have f105 : h102 a = .inr (10, [.ref q]) := by rw [eh103, va_up_ne _ _ (fun q => by rw [q, f96] at f97; cases f97)]; exact f97
    refine r_iinc (y := 3) (ls' := [some (.ref a), some (.int l), some (.int so), some (.int 3), some (.long x98), none]) rfl dX10_joinWhere_38 rfl (by decide) (Nat.le_of_ble_eq_true rfl) rfl ?_
    refine r_goto (pc' := 2) rfl dX10_joinWhere_41 ?_
    refine r_iload_n rfl dX10_joinWhere_2 rfl ?_
    refine r_iconst (v := 4) rfl dX10_joinWhere_3 (by decide) ?_
    refine r_icmp_ge (tgt := 44) rfl rfl dX10_joinWhere_4 (fun c => absurd c (by decide)) (fun _ => ?_)
    refine r_iload_n rfl dX10_joinWhere_7 rfl ?_
    refine r_iload_n rfl dX10_joinWhere_8 rfl ?_
    refine cl_X10_44 rfl rfl dX10_joinWhere_9 (Nat.le_of_ble_eq_true rfl) s_X10_partWhereSo ?_
    rintro _ _ _ ⟨rfl, rfl, rfl⟩
    refine r_topl (fun x106 e107 => ?_)
    refine r_lstore (ls' := [some (.ref a), some (.int l), some (.int so), some (.int 3), some (.long x106), none]) rfl dX10_joinWhere_12 (Nat.le_of_ble_eq_true rfl) rfl ?_
    refine r_aload_n rfl dX10_joinWhere_14 rfl ?_
    refine r_getv 0 rfl dX10_joinWhere_15 ba f105 fl_X10_9 rfl ?_
    refine r_iload_n rfl dX10_joinWhere_18 rfl ?_
    refine r_dup2 rfl dX10_joinWhere_19 (by intro q; cases q) (by intro q; cases q) ?_
    refine r_laldv (jn := 3) (v := x3) rfl dX10_joinWhere_20 bq f104 (by unfold vp_in; decide) rfl rfl ?_
    refine r_iload_n rfl dX10_joinWhere_21 rfl ?_
    refine r_if_eq (tgt := 30) rfl rfl dX10_joinWhere_22 (fun c => absurd c (by first | exact c53 | exact fun z => z c53)) (fun _ => ?_)
    refine r_lload rfl dX10_joinWhere_25 rfl ?_
    refine r_goto (pc' := 36) rfl dX10_joinWhere_27 ?_
    refine r_lor rfl dX10_joinWhere_36 ?_
    refine r_topl (fun x108 e109 => ?_)
    refine r_lastv (jn := 3) (f' := ws4 t x84 x92 x100 x108) rfl dX10_joinWhere_37 bq f104 (by unfold vp_in; decide) rfl (ws4_u3 _ _ _ _ _ _) (fun h110 eh111 => ?_)
    have f112 : h110 q = .inl (1, 4, .inr (.inl (ws4 t x84 x92 x100 x108))) := by rw [eh111]; exact va_up_self _ _ _
    have f113 : h110 a = .inr (10, [.ref q]) := by rw [eh111, va_up_ne _ _ (fun q => by rw [q, f104] at f105; cases f105)]; exact f105
    refine r_iinc (y := 4) (ls' := [some (.ref a), some (.int l), some (.int so), some (.int 4), some (.long x106), none]) rfl dX10_joinWhere_38 rfl (by decide) (Nat.le_of_ble_eq_true rfl) rfl ?_
    refine r_goto (pc' := 2) rfl dX10_joinWhere_41 ?_
    refine r_iload_n rfl dX10_joinWhere_2 rfl ?_
    refine r_iconst (v := 4) rfl dX10_joinWhere_3 (by decide) ?_
    refine r_icmp_ge (tgt := 44) rfl rfl dX10_joinWhere_4 (fun _ => ?_) (fun c => absurd c (by decide))
    subst e109
    subst e107
    subst e101
    subst e99
    subst e93
    subst e91
    subst e85
    subst e52
    subst eh111
    subst eh103
    subst eh95
    subst eh87
    exact r_ret dX10_joinWhere_44 (rt_v rfl) ⟨rfl, (by simp only [va_up_up, c53, if_true, if_false]), rfl⟩
set_option maxRecDepth 20000 in
theorem s_X10_choose {xs : Nat → Int32} {L d sz : Nat} {h : ev_H} {a q b q2 c q3 : Nat} {t t2 t3 : Nat → Int64} {x0 x1 x2 x3 y0 y1 y2 y3 z0 z1 z2 z3 : Int64} {l : Int32} (hw : isWS h sz a q t x0 x1 x2 x3) (hw2 : isWS h sz b q2 t2 y0 y1 y2 y3) (hw3 : isWS h sz c q3 t3 z0 z1 z2 z3) (hne : q2 ≠ q) (hne3 : q3 ≠ q) : EV xs L (d + 1) 0 0 M_X10_choose sz h 0 [some (.ref a), some (.int l), some (.ref b), some (.ref c), none, none, none] [] (fun sz' h' r => sz' = sz ∧ h' = va_up h q (.inl (1, 4, .inr (.inl (ws4 t ((pws l 0 &&& y0) ||| ((pws l 0 ^^^ (-1)) &&& z0)) ((pws l 1 &&& y1) ||| ((pws l 1 ^^^ (-1)) &&& z1)) ((pws l 2 &&& y2) ||| ((pws l 2 ^^^ (-1)) &&& z2)) ((pws l 3 &&& y3) ||| ((pws l 3 ^^^ (-1)) &&& z3)))))) ∧ r = []) := by
  obtain ⟨ba, bq, f1, f2⟩ := hw
  obtain ⟨bb, bq2, f3, f4⟩ := hw2
  obtain ⟨bc, bq3, f5, f6⟩ := hw3
  refine r_iconst (v := 0) rfl dX10_choose_0 (by decide) ?_
  refine r_istore (ls' := [some (.ref a), some (.int l), some (.ref b), some (.ref c), some (.int 0), none, none]) rfl dX10_choose_1 (Nat.le_of_ble_eq_true rfl) rfl ?_
  refine r_iload rfl dX10_choose_3 rfl ?_
  refine r_iconst (v := 4) rfl dX10_choose_5 (by decide) ?_
  refine r_icmp_ge (tgt := 55) rfl rfl dX10_choose_6 (fun c => absurd c (by decide)) (fun _ => ?_)
  refine r_iload_n rfl dX10_choose_9 rfl ?_
  refine r_iload rfl dX10_choose_10 rfl ?_
  refine cl_X10_44 rfl rfl dX10_choose_12 (Nat.le_of_ble_eq_true rfl) s_X10_partWhereSo ?_
  rintro _ _ _ ⟨rfl, rfl, rfl⟩
  refine r_topl (fun x51 e52 => ?_)
  refine r_lstore (ls' := [some (.ref a), some (.int l), some (.ref b), some (.ref c), some (.int 0), some (.long x51), none]) rfl dX10_choose_15 (Nat.le_of_ble_eq_true rfl) rfl ?_
  refine r_aload_n rfl dX10_choose_17 rfl ?_
  refine r_getv 0 rfl dX10_choose_18 ba f1 fl_X10_9 rfl ?_
  refine r_iload rfl dX10_choose_21 rfl ?_
  refine r_lload rfl dX10_choose_23 rfl ?_
  refine r_aload_n rfl dX10_choose_25 rfl ?_
  refine r_getv 0 rfl dX10_choose_26 bb f3 fl_X10_9 rfl ?_
  refine r_iload rfl dX10_choose_29 rfl ?_
  refine r_laldv (jn := 0) (v := y0) rfl dX10_choose_31 bq2 f4 (by unfold vp_in; decide) rfl rfl ?_
  refine r_land rfl dX10_choose_32 ?_
  refine r_lload rfl dX10_choose_33 rfl ?_
  refine r_ldc2 (v := (-1)) rfl dX10_choose_35 lc_X10_18 ?_
  refine r_lxor rfl dX10_choose_38 ?_
  refine r_aload_n rfl dX10_choose_39 rfl ?_
  refine r_getv 0 rfl dX10_choose_40 bc f5 fl_X10_9 rfl ?_
  refine r_iload rfl dX10_choose_43 rfl ?_
  refine r_laldv (jn := 0) (v := z0) rfl dX10_choose_45 bq3 f6 (by unfold vp_in; decide) rfl rfl ?_
  refine r_land rfl dX10_choose_46 ?_
  refine r_lor rfl dX10_choose_47 ?_
  refine r_topl (fun x53 e54 => ?_)
  refine r_lastv (jn := 0) (f' := ws4 t x53 x1 x2 x3) rfl dX10_choose_48 bq f2 (by unfold vp_in; decide) rfl (ws4_u0 _ _ _ _ _ _) (fun h55 eh56 => ?_)
  have f57 : h55 q = .inl (1, 4, .inr (.inl (ws4 t x53 x1 x2 x3))) := by rw [eh56]; exact va_up_self _ _ _
  have f58 : h55 a = .inr (10, [.ref q]) := by rw [eh56, va_up_ne _ _ (fun q => by rw [q, f2] at f1; cases f1)]; exact f1
  have f59 : h55 b = .inr (10, [.ref q2]) := by rw [eh56, va_up_ne _ _ (fun q => by rw [q, f2] at f3; cases f3)]; exact f3
  have f60 : h55 q2 = .inl (1, 4, .inr (.inl (ws4 t2 y0 y1 y2 y3))) := by rw [eh56, va_up_ne _ _ hne]; exact f4
  have f61 : h55 c = .inr (10, [.ref q3]) := by rw [eh56, va_up_ne _ _ (fun q => by rw [q, f2] at f5; cases f5)]; exact f5
  have f62 : h55 q3 = .inl (1, 4, .inr (.inl (ws4 t3 z0 z1 z2 z3))) := by rw [eh56, va_up_ne _ _ hne3]; exact f6
  refine r_iinc (y := 1) (ls' := [some (.ref a), some (.int l), some (.ref b), some (.ref c), some (.int 1), some (.long x51), none]) rfl dX10_choose_49 rfl (by decide) (Nat.le_of_ble_eq_true rfl) rfl ?_
  refine r_goto (pc' := 3) rfl dX10_choose_52 ?_
  refine r_iload rfl dX10_choose_3 rfl ?_
  refine r_iconst (v := 4) rfl dX10_choose_5 (by decide) ?_
  refine r_icmp_ge (tgt := 55) rfl rfl dX10_choose_6 (fun c => absurd c (by decide)) (fun _ => ?_)
  refine r_iload_n rfl dX10_choose_9 rfl ?_
  refine r_iload rfl dX10_choose_10 rfl ?_
  refine cl_X10_44 rfl rfl dX10_choose_12 (Nat.le_of_ble_eq_true rfl) s_X10_partWhereSo ?_
  rintro _ _ _ ⟨rfl, rfl, rfl⟩
  refine r_topl (fun x63 e64 => ?_)
  refine r_lstore (ls' := [some (.ref a), some (.int l), some (.ref b), some (.ref c), some (.int 1), some (.long x63), none]) rfl dX10_choose_15 (Nat.le_of_ble_eq_true rfl) rfl ?_
  refine r_aload_n rfl dX10_choose_17 rfl ?_
  refine r_getv 0 rfl dX10_choose_18 ba f58 fl_X10_9 rfl ?_
  refine r_iload rfl dX10_choose_21 rfl ?_
  refine r_lload rfl dX10_choose_23 rfl ?_
  refine r_aload_n rfl dX10_choose_25 rfl ?_
  refine r_getv 0 rfl dX10_choose_26 bb f59 fl_X10_9 rfl ?_
  refine r_iload rfl dX10_choose_29 rfl ?_
  refine r_laldv (jn := 1) (v := y1) rfl dX10_choose_31 bq2 f60 (by unfold vp_in; decide) rfl rfl ?_
  refine r_land rfl dX10_choose_32 ?_
  refine r_lload rfl dX10_choose_33 rfl ?_
  refine r_ldc2 (v := (-1)) rfl dX10_choose_35 lc_X10_18 ?_
  refine r_lxor rfl dX10_choose_38 ?_
  refine r_aload_n rfl dX10_choose_39 rfl ?_
  refine r_getv 0 rfl dX10_choose_40 bc f61 fl_X10_9 rfl ?_
  refine r_iload rfl dX10_choose_43 rfl ?_
  refine r_laldv (jn := 1) (v := z1) rfl dX10_choose_45 bq3 f62 (by unfold vp_in; decide) rfl rfl ?_
  refine r_land rfl dX10_choose_46 ?_
  refine r_lor rfl dX10_choose_47 ?_
  refine r_topl (fun x65 e66 => ?_)
  refine r_lastv (jn := 1) (f' := ws4 t x53 x65 x2 x3) rfl dX10_choose_48 bq f57 (by unfold vp_in; decide) rfl (ws4_u1 _ _ _ _ _ _) (fun h67 eh68 => ?_)
  have f69 : h67 q = .inl (1, 4, .inr (.inl (ws4 t x53 x65 x2 x3))) := by rw [eh68]; exact va_up_self _ _ _
  have f70 : h67 a = .inr (10, [.ref q]) := by rw [eh68, va_up_ne _ _ (fun q => by rw [q, f57] at f58; cases f58)]; exact f58
  have f71 : h67 b = .inr (10, [.ref q2]) := by rw [eh68, va_up_ne _ _ (fun q => by rw [q, f57] at f59; cases f59)]; exact f59
  have f72 : h67 q2 = .inl (1, 4, .inr (.inl (ws4 t2 y0 y1 y2 y3))) := by rw [eh68, va_up_ne _ _ hne]; exact f60
  have f73 : h67 c = .inr (10, [.ref q3]) := by rw [eh68, va_up_ne _ _ (fun q => by rw [q, f57] at f61; cases f61)]; exact f61
  have f74 : h67 q3 = .inl (1, 4, .inr (.inl (ws4 t3 z0 z1 z2 z3))) := by rw [eh68, va_up_ne _ _ hne3]; exact f62
  refine r_iinc (y := 2) (ls' := [some (.ref a), some (.int l), some (.ref b), some (.ref c), some (.int 2), some (.long x63), none]) rfl dX10_choose_49 rfl (by decide) (Nat.le_of_ble_eq_true rfl) rfl ?_
  refine r_goto (pc' := 3) rfl dX10_choose_52 ?_
  refine r_iload rfl dX10_choose_3 rfl ?_
  refine r_iconst (v := 4) rfl dX10_choose_5 (by decide) ?_
  refine r_icmp_ge (tgt := 55) rfl rfl dX10_choose_6 (fun c => absurd c (by decide)) (fun _ => ?_)
  refine r_iload_n rfl dX10_choose_9 rfl ?_
  refine r_iload rfl dX10_choose_10 rfl ?_
  refine cl_X10_44 rfl rfl dX10_choose_12 (Nat.le_of_ble_eq_true rfl) s_X10_partWhereSo ?_
  rintro _ _ _ ⟨rfl, rfl, rfl⟩
  refine r_topl (fun x75 e76 => ?_)
  refine r_lstore (ls' := [some (.ref a), some (.int l), some (.ref b), some (.ref c), some (.int 2), some (.long x75), none]) rfl dX10_choose_15 (Nat.le_of_ble_eq_true rfl) rfl ?_
  refine r_aload_n rfl dX10_choose_17 rfl ?_
  refine r_getv 0 rfl dX10_choose_18 ba f70 fl_X10_9 rfl ?_
  refine r_iload rfl dX10_choose_21 rfl ?_
  refine r_lload rfl dX10_choose_23 rfl ?_
  refine r_aload_n rfl dX10_choose_25 rfl ?_
  refine r_getv 0 rfl dX10_choose_26 bb f71 fl_X10_9 rfl ?_
  refine r_iload rfl dX10_choose_29 rfl ?_
  refine r_laldv (jn := 2) (v := y2) rfl dX10_choose_31 bq2 f72 (by unfold vp_in; decide) rfl rfl ?_
  refine r_land rfl dX10_choose_32 ?_
  refine r_lload rfl dX10_choose_33 rfl ?_
  refine r_ldc2 (v := (-1)) rfl dX10_choose_35 lc_X10_18 ?_
  refine r_lxor rfl dX10_choose_38 ?_
  refine r_aload_n rfl dX10_choose_39 rfl ?_
  refine r_getv 0 rfl dX10_choose_40 bc f73 fl_X10_9 rfl ?_
  refine r_iload rfl dX10_choose_43 rfl ?_
  refine r_laldv (jn := 2) (v := z2) rfl dX10_choose_45 bq3 f74 (by unfold vp_in; decide) rfl rfl ?_
  refine r_land rfl dX10_choose_46 ?_
  refine r_lor rfl dX10_choose_47 ?_
  refine r_topl (fun x77 e78 => ?_)
  refine r_lastv (jn := 2) (f' := ws4 t x53 x65 x77 x3) rfl dX10_choose_48 bq f69 (by unfold vp_in; decide) rfl (ws4_u2 _ _ _ _ _ _) (fun h79 eh80 => ?_)
  have f81 : h79 q = .inl (1, 4, .inr (.inl (ws4 t x53 x65 x77 x3))) := by rw [eh80]; exact va_up_self _ _ _
  have f82 : h79 a = .inr (10, [.ref q]) := by rw [eh80, va_up_ne _ _ (fun q => by rw [q, f69] at f70; cases f70)]; exact f70
  have f83 : h79 b = .inr (10, [.ref q2]) := by rw [eh80, va_up_ne _ _ (fun q => by rw [q, f69] at f71; cases f71)]; exact f71
  have f84 : h79 q2 = .inl (1, 4, .inr (.inl (ws4 t2 y0 y1 y2 y3))) := by rw [eh80, va_up_ne _ _ hne]; exact f72
  have f85 : h79 c = .inr (10, [.ref q3]) := by rw [eh80, va_up_ne _ _ (fun q => by rw [q, f69] at f73; cases f73)]; exact f73
  have f86 : h79 q3 = .inl (1, 4, .inr (.inl (ws4 t3 z0 z1 z2 z3))) := by rw [eh80, va_up_ne _ _ hne3]; exact f74
  refine r_iinc (y := 3) (ls' := [some (.ref a), some (.int l), some (.ref b), some (.ref c), some (.int 3), some (.long x75), none]) rfl dX10_choose_49 rfl (by decide) (Nat.le_of_ble_eq_true rfl) rfl ?_
  refine r_goto (pc' := 3) rfl dX10_choose_52 ?_
  refine r_iload rfl dX10_choose_3 rfl ?_
  refine r_iconst (v := 4) rfl dX10_choose_5 (by decide) ?_
  refine r_icmp_ge (tgt := 55) rfl rfl dX10_choose_6 (fun c => absurd c (by decide)) (fun _ => ?_)
  refine r_iload_n rfl dX10_choose_9 rfl ?_
  refine r_iload rfl dX10_choose_10 rfl ?_
  refine cl_X10_44 rfl rfl dX10_choose_12 (Nat.le_of_ble_eq_true rfl) s_X10_partWhereSo ?_
  rintro _ _ _ ⟨rfl, rfl, rfl⟩
  refine r_topl (fun x87 e88 => ?_)
  refine r_lstore (ls' := [some (.ref a), some (.int l), some (.ref b), some (.ref c), some (.int 3), some (.long x87), none]) rfl dX10_choose_15 (Nat.le_of_ble_eq_true rfl) rfl ?_
  refine r_aload_n rfl dX10_choose_17 rfl ?_
  refine r_getv 0 rfl dX10_choose_18 ba f82 fl_X10_9 rfl ?_
  refine r_iload rfl dX10_choose_21 rfl ?_
  refine r_lload rfl dX10_choose_23 rfl ?_
  refine r_aload_n rfl dX10_choose_25 rfl ?_
  refine r_getv 0 rfl dX10_choose_26 bb f83 fl_X10_9 rfl ?_
  refine r_iload rfl dX10_choose_29 rfl ?_
  refine r_laldv (jn := 3) (v := y3) rfl dX10_choose_31 bq2 f84 (by unfold vp_in; decide) rfl rfl ?_
  refine r_land rfl dX10_choose_32 ?_
  refine r_lload rfl dX10_choose_33 rfl ?_
  refine r_ldc2 (v := (-1)) rfl dX10_choose_35 lc_X10_18 ?_
  refine r_lxor rfl dX10_choose_38 ?_
  refine r_aload_n rfl dX10_choose_39 rfl ?_
  refine r_getv 0 rfl dX10_choose_40 bc f85 fl_X10_9 rfl ?_
  refine r_iload rfl dX10_choose_43 rfl ?_
  refine r_laldv (jn := 3) (v := z3) rfl dX10_choose_45 bq3 f86 (by unfold vp_in; decide) rfl rfl ?_
  refine r_land rfl dX10_choose_46 ?_
  refine r_lor rfl dX10_choose_47 ?_
  refine r_topl (fun x89 e90 => ?_)
  refine r_lastv (jn := 3) (f' := ws4 t x53 x65 x77 x89) rfl dX10_choose_48 bq f81 (by unfold vp_in; decide) rfl (ws4_u3 _ _ _ _ _ _) (fun h91 eh92 => ?_)
  have f93 : h91 q = .inl (1, 4, .inr (.inl (ws4 t x53 x65 x77 x89))) := by rw [eh92]; exact va_up_self _ _ _
  have f94 : h91 a = .inr (10, [.ref q]) := by rw [eh92, va_up_ne _ _ (fun q => by rw [q, f81] at f82; cases f82)]; exact f82
  have f95 : h91 b = .inr (10, [.ref q2]) := by rw [eh92, va_up_ne _ _ (fun q => by rw [q, f81] at f83; cases f83)]; exact f83
  have f96 : h91 q2 = .inl (1, 4, .inr (.inl (ws4 t2 y0 y1 y2 y3))) := by rw [eh92, va_up_ne _ _ hne]; exact f84
  have f97 : h91 c = .inr (10, [.ref q3]) := by rw [eh92, va_up_ne _ _ (fun q => by rw [q, f81] at f85; cases f85)]; exact f85
  have f98 : h91 q3 = .inl (1, 4, .inr (.inl (ws4 t3 z0 z1 z2 z3))) := by rw [eh92, va_up_ne _ _ hne3]; exact f86
  refine r_iinc (y := 4) (ls' := [some (.ref a), some (.int l), some (.ref b), some (.ref c), some (.int 4), some (.long x87), none]) rfl dX10_choose_49 rfl (by decide) (Nat.le_of_ble_eq_true rfl) rfl ?_
  refine r_goto (pc' := 3) rfl dX10_choose_52 ?_
  refine r_iload rfl dX10_choose_3 rfl ?_
  refine r_iconst (v := 4) rfl dX10_choose_5 (by decide) ?_
  refine r_icmp_ge (tgt := 55) rfl rfl dX10_choose_6 (fun _ => ?_) (fun c => absurd c (by decide))
  subst e90
  subst e88
  subst e78
  subst e76
  subst e66
  subst e64
  subst e54
  subst e52
  subst eh92
  subst eh80
  subst eh68
  subst eh56
  exact r_ret dX10_choose_55 (rt_v rfl) ⟨rfl, (by first | (simp only [va_up_up]; done) | (simp only [va_up_up]; rfl) | rfl), rfl⟩
theorem va_up_id {α : Type} {f : Nat → α} {k : Nat} {v : α} (h : f k = v) : va_up f k v = f := by
  funext j
  by_cases hj : j = k
  · subst hj; rw [va_up_self, h]
  · rw [va_up_ne _ _ hj]
def spb : Nat → Nat → Int32 → Int64 → Int64 → Int64 → Int64 → Int64 × Int64 × Int64 × Int64
  | 0, _, _, a, b, c, e => (a, b, c, e)
  | n + 1, k, ls, a, b, c, e => if (ls >>> (nI k &&& 31)) &&& 1 = 0 then spb n (k + 1) ls (spr0 a b c e (nI k)) (spr1 a b c e (nI k)) (spr2 a b c e (nI k)) (spr3 a b c e (nI k)) else spb n (k + 1) ls a b c e
set_option maxRecDepth 20000 in
theorem s_X10_spreadBut_loop {xs : Nat → Int32} {L d sz : Nat} {a q : Nat} {t : Nat → Int64} {ls : Int32} : ∀ (n k : Nat), k + n = 8 → ∀ (h : ev_H) (x0 : Int64) (x1 : Int64) (x2 : Int64) (x3 : Int64) (hw : isWS h sz a q t x0 x1 x2 x3), EV xs L (d + 2) 0 0 M_X10_spreadBut sz h 2 [some (.ref a), some (.int ls), some (.int (nI k))] [] (fun sz' h' r => sz' = sz ∧ h' = va_up h q (.inl (1, 4, .inr (.inl (ws4 t ((spb n k ls x0 x1 x2 x3).1) ((spb n k ls x0 x1 x2 x3).2.1) ((spb n k ls x0 x1 x2 x3).2.2.1) ((spb n k ls x0 x1 x2 x3).2.2.2))))) ∧ r = []) := by
  intro n
  induction n with
  | zero =>
    intro k hk h x0 x1 x2 x3 hw
    obtain rfl : k = 8 := by omega
    obtain ⟨ba, bq, f1, f2⟩ := hw
    refine r_iload_n rfl dX10_spreadBut_2 rfl ?_
    refine r_bipush (v := 8) rfl dX10_spreadBut_3 (by decide) ?_
    refine r_icmp_ge (tgt := 27) rfl rfl dX10_spreadBut_5 (fun _ => ?_) (fun c => absurd c (by decide))
    exact r_ret dX10_spreadBut_27 (rt_v rfl) ⟨rfl, (va_up_id f2).symm, rfl⟩
  | succ n ih =>
    intro k hk h x0 x1 x2 x3 hw
    obtain ⟨ba, bq, f1, f2⟩ := hw
    refine r_iload_n rfl dX10_spreadBut_2 rfl ?_
    refine r_bipush (v := 8) rfl dX10_spreadBut_3 (by decide) ?_
    refine r_icmp_ge (tgt := 27) rfl rfl dX10_spreadBut_5 (fun c => absurd c (show ¬ (8 : Int32) ≤ nI k from nI_ge (a := k) (b := 8) (by omega) (by decide))) (fun _ => ?_)
    refine r_iload_n rfl dX10_spreadBut_8 rfl ?_
    refine r_iload_n rfl dX10_spreadBut_9 rfl ?_
    refine r_ishr rfl dX10_spreadBut_10 ?_
    refine r_iconst (v := 1) rfl dX10_spreadBut_11 (by decide) ?_
    refine r_iand rfl dX10_spreadBut_12 ?_
    refine r_if_ne (tgt := 21) rfl rfl dX10_spreadBut_13 (fun c601 => ?_) (fun c601 => ?_)
    · obtain ⟨x602, e603⟩ : ∃ z : Int32, z = (nI k) + Int32.ofInt 1 := ⟨_, rfl⟩
      refine r_iinc (y := x602) (ls' := [some (.ref a), some (.int ls), some (.int x602)]) rfl dX10_spreadBut_21 rfl e603.symm (Nat.le_of_ble_eq_true rfl) rfl ?_
      refine r_goto (pc' := 2) rfl dX10_spreadBut_24 ?_
      have z604 : x602 = nI (k + 1) := by rw [e603]; exact nI_1 k
      subst z604
      refine EV.post ?_ (ih (k + 1) (by omega) h x0 x1 x2 x3 ⟨ba, bq, f1, f2⟩)
      rintro _ _ _ ⟨rfl, rfl, rfl⟩
      exact ⟨rfl, by rw [spb, if_neg c601], rfl⟩
    · refine r_aload_n rfl dX10_spreadBut_16 rfl ?_
      refine r_iload_n rfl dX10_spreadBut_17 rfl ?_
      refine cl_X10_51 rfl rfl dX10_spreadBut_18 ba.1 ba.2 f1 (Nat.le_of_ble_eq_true rfl) (s_X10_spread ⟨ba, bq, f1, f2⟩) ?_
      rintro _ h605 _ ⟨rfl, eh606, rfl⟩
      have f607 : h605 q = .inl (1, 4, .inr (.inl (ws4 t (spr0 x0 x1 x2 x3 (nI k)) (spr1 x0 x1 x2 x3 (nI k)) (spr2 x0 x1 x2 x3 (nI k)) (spr3 x0 x1 x2 x3 (nI k))))) := by rw [eh606]; exact va_up_self _ _ _
      have f608 : h605 a = .inr (10, [.ref q]) := by rw [eh606, va_up_ne _ _ (fun q => by rw [q, f2] at f1; cases f1)]; exact f1
      obtain ⟨x609, e610⟩ : ∃ z : Int32, z = (nI k) + Int32.ofInt 1 := ⟨_, rfl⟩
      refine r_iinc (y := x609) (ls' := [some (.ref a), some (.int ls), some (.int x609)]) rfl dX10_spreadBut_21 rfl e610.symm (Nat.le_of_ble_eq_true rfl) rfl ?_
      refine r_goto (pc' := 2) rfl dX10_spreadBut_24 ?_
      have z611 : x609 = nI (k + 1) := by rw [e610]; exact nI_1 k
      subst z611
      refine EV.post ?_ (ih (k + 1) (by omega) h605 (spr0 x0 x1 x2 x3 (nI k)) (spr1 x0 x1 x2 x3 (nI k)) (spr2 x0 x1 x2 x3 (nI k)) (spr3 x0 x1 x2 x3 (nI k)) ⟨ba, bq, f608, f607⟩)
      subst eh606
      rintro _ _ _ ⟨rfl, rfl, rfl⟩
      exact ⟨rfl, by rw [spb, if_pos c601]; simp only [va_up_up], rfl⟩
set_option maxRecDepth 20000 in
theorem s_X10_spreadBut {xs : Nat → Int32} {L d sz : Nat} {h : ev_H} {a q : Nat} {t : Nat → Int64} {x0 x1 x2 x3 : Int64} {ls : Int32} (hw : isWS h sz a q t x0 x1 x2 x3) : EV xs L (d + 2) 0 0 M_X10_spreadBut sz h 0 [some (.ref a), some (.int ls), none] [] (fun sz' h' r => sz' = sz ∧ h' = va_up h q (.inl (1, 4, .inr (.inl (ws4 t ((spb 8 0 ls x0 x1 x2 x3).1) ((spb 8 0 ls x0 x1 x2 x3).2.1) ((spb 8 0 ls x0 x1 x2 x3).2.2.1) ((spb 8 0 ls x0 x1 x2 x3).2.2.2))))) ∧ r = []) := by
  refine r_iconst (v := 0) rfl dX10_spreadBut_0 (by decide) ?_
  refine r_istore_n (ls' := [some (.ref a), some (.int ls), some (.int 0)]) rfl dX10_spreadBut_1 (Nat.le_of_ble_eq_true rfl) rfl ?_
  exact s_X10_spreadBut_loop 8 0 rfl h x0 x1 x2 x3 hw
def lla : Nat → Nat → Int64 → Int64 → Int64 → Int64 → Int32 → Int32
  | 0, _, _, _, _, _, acc => acc
  | n + 1, k, a, b, c, e, acc => if hgo a b c e (nI k) = 0 then lla n (k + 1) a b c e acc else lla n (k + 1) a b c e (acc ||| (1 <<< (nI k &&& 31)))
set_option maxRecDepth 20000 in
theorem s_X10_lettersLookedAt_loop {xs : Nat → Int32} {L d sz : Nat} {h : ev_H} {a q : Nat} {t : Nat → Int64} {x0 x1 x2 x3 : Int64} : ∀ (n k : Nat), k + n = 8 → ∀ (acc : Int32) (hw : isWS h sz a q t x0 x1 x2 x3), EV xs L (d + 2) 0 0 M_X10_lettersLookedAt sz h 4 [some (.ref a), some (.int acc), some (.int (nI k))] [] (fun sz' h' r => sz' = sz ∧ h' = h ∧ r = [.int (lla n k x0 x1 x2 x3 acc)]) := by
  intro n
  induction n with
  | zero =>
    intro k hk acc hw
    obtain rfl : k = 8 := by omega
    obtain ⟨ba, bq, f1, f2⟩ := id hw
    refine r_iload_n rfl dX10_lettersLookedAt_4 rfl ?_
    refine r_bipush (v := 8) rfl dX10_lettersLookedAt_5 (by decide) ?_
    refine r_icmp_ge (tgt := 30) rfl rfl dX10_lettersLookedAt_7 (fun _ => ?_) (fun c => absurd c (by decide))
    refine r_iload_n rfl dX10_lettersLookedAt_30 rfl ?_
    exact r_ret dX10_lettersLookedAt_31 (rt_i rfl) ⟨rfl, rfl, rfl⟩
  | succ n ih =>
    intro k hk acc hw
    obtain ⟨ba, bq, f1, f2⟩ := id hw
    refine r_iload_n rfl dX10_lettersLookedAt_4 rfl ?_
    refine r_bipush (v := 8) rfl dX10_lettersLookedAt_5 (by decide) ?_
    refine r_icmp_ge (tgt := 30) rfl rfl dX10_lettersLookedAt_7 (fun c => absurd c (show ¬ (8 : Int32) ≤ nI k from nI_ge (a := k) (b := 8) (by omega) (by decide))) (fun _ => ?_)
    refine r_aload_n rfl dX10_lettersLookedAt_10 rfl ?_
    refine r_iload_n rfl dX10_lettersLookedAt_11 rfl ?_
    refine cl_X10_55 rfl rfl dX10_lettersLookedAt_12 ba.1 ba.2 f1 (Nat.le_of_ble_eq_true rfl) (s_X10_hangsOn ⟨ba, bq, f1, f2⟩) ?_
    rintro _ _ _ ⟨rfl, rfl, rfl⟩
    refine r_if_eq (tgt := 24) rfl rfl dX10_lettersLookedAt_15 (fun c601 => ?_) (fun c601 => ?_)
    · obtain ⟨x602, e603⟩ : ∃ z : Int32, z = (nI k) + Int32.ofInt 1 := ⟨_, rfl⟩
      refine r_iinc (y := x602) (ls' := [some (.ref a), some (.int acc), some (.int x602)]) rfl dX10_lettersLookedAt_24 rfl e603.symm (Nat.le_of_ble_eq_true rfl) rfl ?_
      refine r_goto (pc' := 4) rfl dX10_lettersLookedAt_27 ?_
      have z604 : x602 = nI (k + 1) := by rw [e603]; exact nI_1 k
      subst z604
      refine EV.post ?_ (ih (k + 1) (by omega) acc hw)
      rintro _ _ _ ⟨rfl, rfl, rfl⟩
      exact ⟨rfl, rfl, by rw [lla, if_pos c601]⟩
    · refine r_iload_n rfl dX10_lettersLookedAt_18 rfl ?_
      refine r_iconst (v := 1) rfl dX10_lettersLookedAt_19 (by decide) ?_
      refine r_iload_n rfl dX10_lettersLookedAt_20 rfl ?_
      refine r_ishl rfl dX10_lettersLookedAt_21 ?_
      refine r_ior rfl dX10_lettersLookedAt_22 ?_
      refine r_topi (fun x605 e606 => ?_)
      refine r_istore_n (ls' := [some (.ref a), some (.int x605), some (.int (nI k))]) rfl dX10_lettersLookedAt_23 (Nat.le_of_ble_eq_true rfl) rfl ?_
      obtain ⟨x607, e608⟩ : ∃ z : Int32, z = (nI k) + Int32.ofInt 1 := ⟨_, rfl⟩
      refine r_iinc (y := x607) (ls' := [some (.ref a), some (.int x605), some (.int x607)]) rfl dX10_lettersLookedAt_24 rfl e608.symm (Nat.le_of_ble_eq_true rfl) rfl ?_
      refine r_goto (pc' := 4) rfl dX10_lettersLookedAt_27 ?_
      have z609 : x607 = nI (k + 1) := by rw [e608]; exact nI_1 k
      subst z609
      refine EV.post ?_ (ih (k + 1) (by omega) x605 hw)
      subst e606
      rintro _ _ _ ⟨rfl, rfl, rfl⟩
      exact ⟨rfl, rfl, by rw [lla, if_neg c601]⟩
set_option maxRecDepth 20000 in
theorem s_X10_lettersLookedAt {xs : Nat → Int32} {L d sz : Nat} {h : ev_H} {a q : Nat} {t : Nat → Int64} {x0 x1 x2 x3 : Int64} (hw : isWS h sz a q t x0 x1 x2 x3) : EV xs L (d + 2) 0 0 M_X10_lettersLookedAt sz h 0 [some (.ref a), none, none] [] (fun sz' h' r => sz' = sz ∧ h' = h ∧ r = [.int (lla 8 0 x0 x1 x2 x3 0)]) := by
  refine r_iconst (v := 0) rfl dX10_lettersLookedAt_0 (by decide) ?_
  refine r_istore_n (ls' := [some (.ref a), some (.int 0), none]) rfl dX10_lettersLookedAt_1 (Nat.le_of_ble_eq_true rfl) rfl ?_
  refine r_iconst (v := 0) rfl dX10_lettersLookedAt_2 (by decide) ?_
  refine r_istore_n (ls' := [some (.ref a), some (.int 0), some (.int 0)]) rfl dX10_lettersLookedAt_3 (Nat.le_of_ble_eq_true rfl) rfl ?_
  exact s_X10_lettersLookedAt_loop 8 0 rfl 0 hw
set_option maxRecDepth 20000 in
theorem s_X10_put {xs : Nat → Int32} {L d sz : Nat} {h : ev_H} {a q : Nat} {t : Nat → Int64} {x0 x1 x2 x3 : Int64} {w b : Int32} (hw : isWS h sz a q t x0 x1 x2 x3) : EV xs L (d + 1) 0 0 M_X10_put sz h 0 [some (.ref a), some (.int w), some (.int b), none, none] [] (fun sz' h' r => sz' = sz ∧ (∃ z0 z1 z2 z3, h' = va_up h q (.inl (1, 4, .inr (.inl (ws4 t z0 z1 z2 z3))))) ∧ r = []) := by
  obtain ⟨ba, bq, f1, f2⟩ := hw
  refine r_iload_n rfl dX10_put_0 rfl ?_
  refine cl_X10_20 rfl rfl dX10_put_1 (Nat.le_of_ble_eq_true rfl) s_X11_isWorld ?_
  rintro _ _ _ ⟨rfl, rfl, rfl⟩
  refine r_if_ne (tgt := 8) rfl rfl dX10_put_4 (fun c51 => ?_) (fun c51 => ?_)
  · refine r_lconst (v := 1) rfl dX10_put_8 (by decide) ?_
    refine r_iload_n rfl dX10_put_9 rfl ?_
    refine r_bipush (v := 63) rfl dX10_put_10 (by decide) ?_
    refine r_iand rfl dX10_put_12 ?_
    refine r_lshl rfl dX10_put_13 ?_
    refine r_topl (fun x52 e53 => ?_)
    refine r_lstore_n (ls' := [some (.ref a), some (.int w), some (.int b), some (.long x52), none]) rfl dX10_put_14 (Nat.le_of_ble_eq_true rfl) rfl ?_
    refine r_iload_n rfl dX10_put_15 rfl ?_
    refine r_if_eq (tgt := 35) rfl rfl dX10_put_16 (fun c54 => ?_) (fun c54 => ?_)
    · refine r_aload_n rfl dX10_put_35 rfl ?_
      refine r_getv 0 rfl dX10_put_36 ba f1 fl_X10_9 rfl ?_
      refine r_iload_n rfl dX10_put_39 rfl ?_
      refine r_bipush (v := 6) rfl dX10_put_40 (by decide) ?_
      refine r_ishr rfl dX10_put_42 ?_
      refine r_dup2 rfl dX10_put_43 (by intro q; cases q) (by intro q; cases q) ?_
      refine r_laldv (jn := (w >>> (6 &&& 31)).toNatClampNeg) (v := sel4 x0 x1 x2 x3 ((w >>> (6 &&& 31)).toNatClampNeg)) rfl dX10_put_44 bq f2 (isW_i4 c51) (by first | rfl | assumption) (ws4_s (vp_in_lt (isW_i4 c51))) ?_
      refine r_lload_n rfl dX10_put_45 rfl ?_
      refine r_ldc2 (v := (-1)) rfl dX10_put_46 lc_X10_18 ?_
      refine r_lxor rfl dX10_put_49 ?_
      refine r_land rfl dX10_put_50 ?_
      refine r_topl (fun x55 e56 => ?_)
      refine r_lastv (jn := (w >>> (6 &&& 31)).toNatClampNeg) (f' := ws4 t (if (w >>> (6 &&& 31)).toNatClampNeg = 0 then x55 else x0) (if (w >>> (6 &&& 31)).toNatClampNeg = 1 then x55 else x1) (if (w >>> (6 &&& 31)).toNatClampNeg = 2 then x55 else x2) (if (w >>> (6 &&& 31)).toNatClampNeg = 3 then x55 else x3)) rfl dX10_put_51 bq f2 (isW_i4 c51) (by first | rfl | assumption) (ws4_up (vp_in_lt (isW_i4 c51))) (fun h57 eh58 => ?_)
      have f59 : h57 q = .inl (1, 4, .inr (.inl (ws4 t (if (w >>> (6 &&& 31)).toNatClampNeg = 0 then x55 else x0) (if (w >>> (6 &&& 31)).toNatClampNeg = 1 then x55 else x1) (if (w >>> (6 &&& 31)).toNatClampNeg = 2 then x55 else x2) (if (w >>> (6 &&& 31)).toNatClampNeg = 3 then x55 else x3)))) := by rw [eh58]; exact va_up_self _ _ _
      have f60 : h57 a = .inr (10, [.ref q]) := by rw [eh58, va_up_ne _ _ (fun q => by rw [q, f2] at f1; cases f1)]; exact f1
      subst e56
      subst e53
      subst eh58
      exact r_ret dX10_put_52 (rt_v rfl) ⟨rfl, ⟨_, _, _, _, rfl⟩, rfl⟩
    · refine r_aload_n rfl dX10_put_19 rfl ?_
      refine r_getv 0 rfl dX10_put_20 ba f1 fl_X10_9 rfl ?_
      refine r_iload_n rfl dX10_put_23 rfl ?_
      refine r_bipush (v := 6) rfl dX10_put_24 (by decide) ?_
      refine r_ishr rfl dX10_put_26 ?_
      refine r_dup2 rfl dX10_put_27 (by intro q; cases q) (by intro q; cases q) ?_
      refine r_laldv (jn := (w >>> (6 &&& 31)).toNatClampNeg) (v := sel4 x0 x1 x2 x3 ((w >>> (6 &&& 31)).toNatClampNeg)) rfl dX10_put_28 bq f2 (isW_i4 c51) (by first | rfl | assumption) (ws4_s (vp_in_lt (isW_i4 c51))) ?_
      refine r_lload_n rfl dX10_put_29 rfl ?_
      refine r_lor rfl dX10_put_30 ?_
      refine r_topl (fun x61 e62 => ?_)
      refine r_lastv (jn := (w >>> (6 &&& 31)).toNatClampNeg) (f' := ws4 t (if (w >>> (6 &&& 31)).toNatClampNeg = 0 then x61 else x0) (if (w >>> (6 &&& 31)).toNatClampNeg = 1 then x61 else x1) (if (w >>> (6 &&& 31)).toNatClampNeg = 2 then x61 else x2) (if (w >>> (6 &&& 31)).toNatClampNeg = 3 then x61 else x3)) rfl dX10_put_31 bq f2 (isW_i4 c51) (by first | rfl | assumption) (ws4_up (vp_in_lt (isW_i4 c51))) (fun h63 eh64 => ?_)
      have f65 : h63 q = .inl (1, 4, .inr (.inl (ws4 t (if (w >>> (6 &&& 31)).toNatClampNeg = 0 then x61 else x0) (if (w >>> (6 &&& 31)).toNatClampNeg = 1 then x61 else x1) (if (w >>> (6 &&& 31)).toNatClampNeg = 2 then x61 else x2) (if (w >>> (6 &&& 31)).toNatClampNeg = 3 then x61 else x3)))) := by rw [eh64]; exact va_up_self _ _ _
      have f66 : h63 a = .inr (10, [.ref q]) := by rw [eh64, va_up_ne _ _ (fun q => by rw [q, f2] at f1; cases f1)]; exact f1
      refine r_goto (pc' := 52) rfl dX10_put_32 ?_
      subst e62
      subst e53
      subst eh64
      exact r_ret dX10_put_52 (rt_v rfl) ⟨rfl, ⟨_, _, _, _, rfl⟩, rfl⟩
  · exact r_ret dX10_put_7 (rt_v rfl) ⟨rfl, ⟨x0, x1, x2, x3, (va_up_id f2).symm⟩, rfl⟩
