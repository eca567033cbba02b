theorem dX12_wrong_0 : decode cX12_wrong 0 = .ok (.aload_n 0, 1) := by decide +kernel
theorem dX12_wrong_1 : decode cX12_wrong 1 = .ok (.iconst 0, 1) := by decide +kernel
theorem dX12_wrong_2 : decode cX12_wrong 2 = .ok (.putfield 57, 3) := by decide +kernel
theorem dX12_wrong_5 : decode cX12_wrong 5 = .ok (.aload_n 0, 1) := by decide +kernel
theorem dX12_wrong_6 : decode cX12_wrong 6 = .ok (.getfield 13, 3) := by decide +kernel
theorem dX12_wrong_9 : decode cX12_wrong 9 = .ok (.ireturn, 1) := by decide +kernel
theorem dX12_end_0 : decode cX12_end 0 = .ok (.aload_n 0, 1) := by decide +kernel
theorem dX12_end_1 : decode cX12_end 1 = .ok (.iconst 0, 1) := by decide +kernel
theorem dX12_end_2 : decode cX12_end 2 = .ok (.putfield 57, 3) := by decide +kernel
theorem dX12_end_5 : decode cX12_end 5 = .ok (.aload_n 0, 1) := by decide +kernel
theorem dX12_end_6 : decode cX12_end 6 = .ok (.invokevirtual 154, 3) := by decide +kernel
theorem dX12_end_9 : decode cX12_end 9 = .ok (.ireturn, 1) := by decide +kernel
theorem dX12_line_0 : decode cX12_line 0 = .ok (.aload_n 0, 1) := by decide +kernel
theorem dX12_line_1 : decode cX12_line 1 = .ok (.iconst 0, 1) := by decide +kernel
theorem dX12_line_2 : decode cX12_line 2 = .ok (.putfield 57, 3) := by decide +kernel
theorem dX12_line_5 : decode cX12_line 5 = .ok (.aload_n 0, 1) := by decide +kernel
theorem dX12_line_6 : decode cX12_line 6 = .ok (.iload_n 1, 1) := by decide +kernel
theorem dX12_line_7 : decode cX12_line 7 = .ok (.invokevirtual 157, 3) := by decide +kernel
theorem dX12_line_10 : decode cX12_line 10 = .ok (.ifCond .eq 26, 3) := by decide +kernel
theorem dX12_line_13 : decode cX12_line 13 = .ok (.iload_n 2, 1) := by decide +kernel
theorem dX12_line_14 : decode cX12_line 14 = .ok (.iconst 0, 1) := by decide +kernel
theorem dX12_line_15 : decode cX12_line 15 = .ok (.iconst 5, 1) := by decide +kernel
theorem dX12_line_16 : decode cX12_line 16 = .ok (.invokestatic 60, 3) := by decide +kernel
theorem dX12_line_19 : decode cX12_line 19 = .ok (.ifCond .eq 17, 3) := by decide +kernel
theorem dX12_line_22 : decode cX12_line 22 = .ok (.aload_n 0, 1) := by decide +kernel
theorem dX12_line_23 : decode cX12_line 23 = .ok (.getfield 17, 3) := by decide +kernel
theorem dX12_line_26 : decode cX12_line 26 = .ok (.bipush 6, 2) := by decide +kernel
theorem dX12_line_28 : decode cX12_line 28 = .ok (.iload_n 1, 1) := by decide +kernel
theorem dX12_line_29 : decode cX12_line 29 = .ok (.imul, 1) := by decide +kernel
theorem dX12_line_30 : decode cX12_line 30 = .ok (.iload_n 2, 1) := by decide +kernel
theorem dX12_line_31 : decode cX12_line 31 = .ok (.iadd, 1) := by decide +kernel
theorem dX12_line_32 : decode cX12_line 32 = .ok (.iaload, 1) := by decide +kernel
theorem dX12_line_33 : decode cX12_line 33 = .ok (.goto 4, 3) := by decide +kernel
theorem dX12_line_36 : decode cX12_line 36 = .ok (.iconst (-1), 1) := by decide +kernel
theorem dX12_line_37 : decode cX12_line 37 = .ok (.ireturn, 1) := by decide +kernel
theorem dX12_side_0 : decode cX12_side 0 = .ok (.aload_n 0, 1) := by decide +kernel
theorem dX12_side_1 : decode cX12_side 1 = .ok (.iconst 0, 1) := by decide +kernel
theorem dX12_side_2 : decode cX12_side 2 = .ok (.putfield 57, 3) := by decide +kernel
theorem dX12_side_5 : decode cX12_side 5 = .ok (.iload_n 1, 1) := by decide +kernel
theorem dX12_side_6 : decode cX12_side 6 = .ok (.iconst 0, 1) := by decide +kernel
theorem dX12_side_7 : decode cX12_side 7 = .ok (.bipush 7, 2) := by decide +kernel
theorem dX12_side_9 : decode cX12_side 9 = .ok (.invokestatic 60, 3) := by decide +kernel
theorem dX12_side_12 : decode cX12_side 12 = .ok (.ifCond .eq 27, 3) := by decide +kernel
theorem dX12_side_15 : decode cX12_side 15 = .ok (.aload_n 0, 1) := by decide +kernel
theorem dX12_side_16 : decode cX12_side 16 = .ok (.iconst 1, 1) := by decide +kernel
theorem dX12_side_17 : decode cX12_side 17 = .ok (.invokevirtual 130, 3) := by decide +kernel
theorem dX12_side_20 : decode cX12_side 20 = .ok (.iload_n 1, 1) := by decide +kernel
theorem dX12_side_21 : decode cX12_side 21 = .ok (.ishr, 1) := by decide +kernel
theorem dX12_side_22 : decode cX12_side 22 = .ok (.iconst 1, 1) := by decide +kernel
theorem dX12_side_23 : decode cX12_side 23 = .ok (.iand, 1) := by decide +kernel
theorem dX12_side_24 : decode cX12_side 24 = .ok (.iconst 2, 1) := by decide +kernel
theorem dX12_side_25 : decode cX12_side 25 = .ok (.aload_n 0, 1) := by decide +kernel
theorem dX12_side_26 : decode cX12_side 26 = .ok (.iconst 2, 1) := by decide +kernel
theorem dX12_side_27 : decode cX12_side 27 = .ok (.invokevirtual 130, 3) := by decide +kernel
theorem dX12_side_30 : decode cX12_side 30 = .ok (.iload_n 1, 1) := by decide +kernel
theorem dX12_side_31 : decode cX12_side 31 = .ok (.ishr, 1) := by decide +kernel
theorem dX12_side_32 : decode cX12_side 32 = .ok (.iconst 1, 1) := by decide +kernel
theorem dX12_side_33 : decode cX12_side 33 = .ok (.iand, 1) := by decide +kernel
theorem dX12_side_34 : decode cX12_side 34 = .ok (.imul, 1) := by decide +kernel
theorem dX12_side_35 : decode cX12_side 35 = .ok (.iadd, 1) := by decide +kernel
theorem dX12_side_36 : decode cX12_side 36 = .ok (.goto 4, 3) := by decide +kernel
theorem dX12_side_39 : decode cX12_side 39 = .ok (.iconst (-1), 1) := by decide +kernel
theorem dX12_side_40 : decode cX12_side 40 = .ok (.ireturn, 1) := by decide +kernel
theorem dX12_holds_0 : decode cX12_holds 0 = .ok (.aload_n 0, 1) := by decide +kernel
theorem dX12_holds_1 : decode cX12_holds 1 = .ok (.iconst 0, 1) := by decide +kernel
theorem dX12_holds_2 : decode cX12_holds 2 = .ok (.putfield 57, 3) := by decide +kernel
theorem dX12_holds_5 : decode cX12_holds 5 = .ok (.aload_n 0, 1) := by decide +kernel
theorem dX12_holds_6 : decode cX12_holds 6 = .ok (.iload_n 1, 1) := by decide +kernel
theorem dX12_holds_7 : decode cX12_holds 7 = .ok (.invokevirtual 157, 3) := by decide +kernel
theorem dX12_holds_10 : decode cX12_holds 10 = .ok (.ifCond .eq 14, 3) := by decide +kernel
theorem dX12_holds_13 : decode cX12_holds 13 = .ok (.iload_n 2, 1) := by decide +kernel
theorem dX12_holds_14 : decode cX12_holds 14 = .ok (.iconst 0, 1) := by decide +kernel
theorem dX12_holds_15 : decode cX12_holds 15 = .ok (.sipush 255, 3) := by decide +kernel
theorem dX12_holds_18 : decode cX12_holds 18 = .ok (.invokestatic 60, 3) := by decide +kernel
theorem dX12_holds_21 : decode cX12_holds 21 = .ok (.ifCond .ne 7, 3) := by decide +kernel
theorem dX12_holds_24 : decode cX12_holds 24 = .ok (.iconst (-1), 1) := by decide +kernel
theorem dX12_holds_25 : decode cX12_holds 25 = .ok (.goto 22, 3) := by decide +kernel
theorem dX12_holds_28 : decode cX12_holds 28 = .ok (.aload_n 0, 1) := by decide +kernel
theorem dX12_holds_29 : decode cX12_holds 29 = .ok (.getfield 26, 3) := by decide +kernel
theorem dX12_holds_32 : decode cX12_holds 32 = .ok (.iconst 4, 1) := by decide +kernel
theorem dX12_holds_33 : decode cX12_holds 33 = .ok (.iload_n 1, 1) := by decide +kernel
theorem dX12_holds_34 : decode cX12_holds 34 = .ok (.imul, 1) := by decide +kernel
theorem dX12_holds_35 : decode cX12_holds 35 = .ok (.iload_n 2, 1) := by decide +kernel
theorem dX12_holds_36 : decode cX12_holds 36 = .ok (.invokestatic 143, 3) := by decide +kernel
theorem dX12_holds_39 : decode cX12_holds 39 = .ok (.ifCond .eq 7, 3) := by decide +kernel
theorem dX12_holds_42 : decode cX12_holds 42 = .ok (.iconst 1, 1) := by decide +kernel
theorem dX12_holds_43 : decode cX12_holds 43 = .ok (.goto 4, 3) := by decide +kernel
theorem dX12_holds_46 : decode cX12_holds 46 = .ok (.iconst 0, 1) := by decide +kernel
theorem dX12_holds_47 : decode cX12_holds 47 = .ok (.ireturn, 1) := by decide +kernel
theorem dX12_worlds_0 : decode cX12_worlds 0 = .ok (.aload_n 0, 1) := by decide +kernel
theorem dX12_worlds_1 : decode cX12_worlds 1 = .ok (.iconst 0, 1) := by decide +kernel
theorem dX12_worlds_2 : decode cX12_worlds 2 = .ok (.putfield 57, 3) := by decide +kernel
theorem dX12_worlds_5 : decode cX12_worlds 5 = .ok (.iconst 0, 1) := by decide +kernel
theorem dX12_worlds_6 : decode cX12_worlds 6 = .ok (.istore_n 2, 1) := by decide +kernel
theorem dX12_worlds_7 : decode cX12_worlds 7 = .ok (.iload_n 2, 1) := by decide +kernel
theorem dX12_worlds_8 : decode cX12_worlds 8 = .ok (.iconst 4, 1) := by decide +kernel
theorem dX12_worlds_9 : decode cX12_worlds 9 = .ok (.if_icmp .ge 28, 3) := by decide +kernel
theorem dX12_worlds_12 : decode cX12_worlds 12 = .ok (.aload_n 0, 1) := by decide +kernel
theorem dX12_worlds_13 : decode cX12_worlds 13 = .ok (.getfield 48, 3) := by decide +kernel
theorem dX12_worlds_16 : decode cX12_worlds 16 = .ok (.iload_n 2, 1) := by decide +kernel
theorem dX12_worlds_17 : decode cX12_worlds 17 = .ok (.aload_n 0, 1) := by decide +kernel
theorem dX12_worlds_18 : decode cX12_worlds 18 = .ok (.getfield 33, 3) := by decide +kernel
theorem dX12_worlds_21 : decode cX12_worlds 21 = .ok (.iload_n 2, 1) := by decide +kernel
theorem dX12_worlds_22 : decode cX12_worlds 22 = .ok (.laload, 1) := by decide +kernel
theorem dX12_worlds_23 : decode cX12_worlds 23 = .ok (.aload_n 0, 1) := by decide +kernel
theorem dX12_worlds_24 : decode cX12_worlds 24 = .ok (.getfield 36, 3) := by decide +kernel
theorem dX12_worlds_27 : decode cX12_worlds 27 = .ok (.iload_n 2, 1) := by decide +kernel
theorem dX12_worlds_28 : decode cX12_worlds 28 = .ok (.laload, 1) := by decide +kernel
theorem dX12_worlds_29 : decode cX12_worlds 29 = .ok (.land, 1) := by decide +kernel
theorem dX12_worlds_30 : decode cX12_worlds 30 = .ok (.lastore, 1) := by decide +kernel
theorem dX12_worlds_31 : decode cX12_worlds 31 = .ok (.iinc 2 1, 3) := by decide +kernel
theorem dX12_worlds_34 : decode cX12_worlds 34 = .ok (.goto (-27), 3) := by decide +kernel
theorem dX12_worlds_37 : decode cX12_worlds 37 = .ok (.iload_n 1, 1) := by decide +kernel
theorem dX12_worlds_38 : decode cX12_worlds 38 = .ok (.ifCond .ne 13, 3) := by decide +kernel
theorem dX12_worlds_41 : decode cX12_worlds 41 = .ok (.aload_n 0, 1) := by decide +kernel
theorem dX12_worlds_42 : decode cX12_worlds 42 = .ok (.getfield 33, 3) := by decide +kernel
theorem dX12_worlds_45 : decode cX12_worlds 45 = .ok (.invokestatic 160, 3) := by decide +kernel
theorem dX12_worlds_48 : decode cX12_worlds 48 = .ok (.goto 34, 3) := by decide +kernel
theorem dX12_worlds_51 : decode cX12_worlds 51 = .ok (.iload_n 1, 1) := by decide +kernel
theorem dX12_worlds_52 : decode cX12_worlds 52 = .ok (.iconst 1, 1) := by decide +kernel
theorem dX12_worlds_53 : decode cX12_worlds 53 = .ok (.if_icmp .ne 13, 3) := by decide +kernel
theorem dX12_worlds_56 : decode cX12_worlds 56 = .ok (.aload_n 0, 1) := by decide +kernel
theorem dX12_worlds_57 : decode cX12_worlds 57 = .ok (.getfield 36, 3) := by decide +kernel
theorem dX12_worlds_60 : decode cX12_worlds 60 = .ok (.invokestatic 160, 3) := by decide +kernel
theorem dX12_worlds_63 : decode cX12_worlds 63 = .ok (.goto 19, 3) := by decide +kernel
theorem dX12_worlds_66 : decode cX12_worlds 66 = .ok (.iload_n 1, 1) := by decide +kernel
theorem dX12_worlds_67 : decode cX12_worlds 67 = .ok (.iconst 2, 1) := by decide +kernel
theorem dX12_worlds_68 : decode cX12_worlds 68 = .ok (.if_icmp .ne 13, 3) := by decide +kernel
theorem dX12_worlds_71 : decode cX12_worlds 71 = .ok (.aload_n 0, 1) := by decide +kernel
theorem dX12_worlds_72 : decode cX12_worlds 72 = .ok (.getfield 48, 3) := by decide +kernel
theorem dX12_worlds_75 : decode cX12_worlds 75 = .ok (.invokestatic 160, 3) := by decide +kernel
theorem dX12_worlds_78 : decode cX12_worlds 78 = .ok (.goto 4, 3) := by decide +kernel
theorem dX12_worlds_81 : decode cX12_worlds 81 = .ok (.iconst (-1), 1) := by decide +kernel
theorem dX12_worlds_82 : decode cX12_worlds 82 = .ok (.ireturn, 1) := by decide +kernel
theorem dX12_says_0 : decode cX12_says 0 = .ok (.aload_n 0, 1) := by decide +kernel
theorem dX12_says_1 : decode cX12_says 1 = .ok (.iconst 0, 1) := by decide +kernel
theorem dX12_says_2 : decode cX12_says 2 = .ok (.putfield 57, 3) := by decide +kernel
theorem dX12_says_5 : decode cX12_says 5 = .ok (.iload_n 1, 1) := by decide +kernel
theorem dX12_says_6 : decode cX12_says 6 = .ok (.invokestatic 164, 3) := by decide +kernel
theorem dX12_says_9 : decode cX12_says 9 = .ok (.ifCond .eq 22, 3) := by decide +kernel
theorem dX12_says_12 : decode cX12_says 12 = .ok (.aload_n 0, 1) := by decide +kernel
theorem dX12_says_13 : decode cX12_says 13 = .ok (.iload_n 2, 1) := by decide +kernel
theorem dX12_says_14 : decode cX12_says 14 = .ok (.invokevirtual 157, 3) := by decide +kernel
theorem dX12_says_17 : decode cX12_says 17 = .ok (.ifCond .eq 14, 3) := by decide +kernel
theorem dX12_says_20 : decode cX12_says 20 = .ok (.iload_n 3, 1) := by decide +kernel
theorem dX12_says_21 : decode cX12_says 21 = .ok (.iconst 0, 1) := by decide +kernel
theorem dX12_says_22 : decode cX12_says 22 = .ok (.sipush 255, 3) := by decide +kernel
theorem dX12_says_25 : decode cX12_says 25 = .ok (.invokestatic 60, 3) := by decide +kernel
theorem dX12_says_28 : decode cX12_says 28 = .ok (.ifCond .ne 7, 3) := by decide +kernel
theorem dX12_says_31 : decode cX12_says 31 = .ok (.iconst (-1), 1) := by decide +kernel
theorem dX12_says_32 : decode cX12_says 32 = .ok (.goto 28, 3) := by decide +kernel
theorem dX12_says_35 : decode cX12_says 35 = .ok (.aload_n 0, 1) := by decide +kernel
theorem dX12_says_36 : decode cX12_says 36 = .ok (.getfield 30, 3) := by decide +kernel
theorem dX12_says_39 : decode cX12_says 39 = .ok (.sipush 160, 3) := by decide +kernel
theorem dX12_says_42 : decode cX12_says 42 = .ok (.iload_n 1, 1) := by decide +kernel
theorem dX12_says_43 : decode cX12_says 43 = .ok (.imul, 1) := by decide +kernel
theorem dX12_says_44 : decode cX12_says 44 = .ok (.iconst 4, 1) := by decide +kernel
theorem dX12_says_45 : decode cX12_says 45 = .ok (.iload_n 2, 1) := by decide +kernel
theorem dX12_says_46 : decode cX12_says 46 = .ok (.imul, 1) := by decide +kernel
theorem dX12_says_47 : decode cX12_says 47 = .ok (.iadd, 1) := by decide +kernel
theorem dX12_says_48 : decode cX12_says 48 = .ok (.iload_n 3, 1) := by decide +kernel
theorem dX12_says_49 : decode cX12_says 49 = .ok (.invokestatic 143, 3) := by decide +kernel
theorem dX12_says_52 : decode cX12_says 52 = .ok (.ifCond .eq 7, 3) := by decide +kernel
theorem dX12_says_55 : decode cX12_says 55 = .ok (.iconst 1, 1) := by decide +kernel
theorem dX12_says_56 : decode cX12_says 56 = .ok (.goto 4, 3) := by decide +kernel
theorem dX12_says_59 : decode cX12_says 59 = .ok (.iconst 0, 1) := by decide +kernel
theorem dX12_says_60 : decode cX12_says 60 = .ok (.ireturn, 1) := by decide +kernel
theorem dX12_saying_0 : decode cX12_saying 0 = .ok (.aload_n 0, 1) := by decide +kernel
theorem dX12_saying_1 : decode cX12_saying 1 = .ok (.iconst 0, 1) := by decide +kernel
theorem dX12_saying_2 : decode cX12_saying 2 = .ok (.putfield 57, 3) := by decide +kernel
theorem dX12_saying_5 : decode cX12_saying 5 = .ok (.aload_n 0, 1) := by decide +kernel
theorem dX12_saying_6 : decode cX12_saying 6 = .ok (.invokevirtual 154, 3) := by decide +kernel
theorem dX12_saying_9 : decode cX12_saying 9 = .ok (.istore_n 3, 1) := by decide +kernel
theorem dX12_saying_10 : decode cX12_saying 10 = .ok (.iload_n 1, 1) := by decide +kernel
theorem dX12_saying_11 : decode cX12_saying 11 = .ok (.invokestatic 164, 3) := by decide +kernel
theorem dX12_saying_14 : decode cX12_saying 14 = .ok (.ifCond .eq 37, 3) := by decide +kernel
theorem dX12_saying_17 : decode cX12_saying 17 = .ok (.iload_n 2, 1) := by decide +kernel
theorem dX12_saying_18 : decode cX12_saying 18 = .ok (.iconst 0, 1) := by decide +kernel
theorem dX12_saying_19 : decode cX12_saying 19 = .ok (.iconst 3, 1) := by decide +kernel
theorem dX12_saying_20 : decode cX12_saying 20 = .ok (.invokestatic 60, 3) := by decide +kernel
theorem dX12_saying_23 : decode cX12_saying 23 = .ok (.ifCond .eq 28, 3) := by decide +kernel
theorem dX12_saying_26 : decode cX12_saying 26 = .ok (.iload_n 3, 1) := by decide +kernel
theorem dX12_saying_27 : decode cX12_saying 27 = .ok (.bipush (-9), 2) := by decide +kernel
theorem dX12_saying_29 : decode cX12_saying 29 = .ok (.if_icmp .eq 22, 3) := by decide +kernel
theorem dX12_saying_32 : decode cX12_saying 32 = .ok (.aload_n 0, 1) := by decide +kernel
theorem dX12_saying_33 : decode cX12_saying 33 = .ok (.getfield 30, 3) := by decide +kernel
theorem dX12_saying_36 : decode cX12_saying 36 = .ok (.sipush 160, 3) := by decide +kernel
theorem dX12_saying_39 : decode cX12_saying 39 = .ok (.iload_n 1, 1) := by decide +kernel
theorem dX12_saying_40 : decode cX12_saying 40 = .ok (.imul, 1) := by decide +kernel
theorem dX12_saying_41 : decode cX12_saying 41 = .ok (.iconst 4, 1) := by decide +kernel
theorem dX12_saying_42 : decode cX12_saying 42 = .ok (.iload_n 3, 1) := by decide +kernel
theorem dX12_saying_43 : decode cX12_saying 43 = .ok (.imul, 1) := by decide +kernel
theorem dX12_saying_44 : decode cX12_saying 44 = .ok (.iadd, 1) := by decide +kernel
theorem dX12_saying_45 : decode cX12_saying 45 = .ok (.iload_n 2, 1) := by decide +kernel
theorem dX12_saying_46 : decode cX12_saying 46 = .ok (.iadd, 1) := by decide +kernel
theorem dX12_saying_47 : decode cX12_saying 47 = .ok (.laload, 1) := by decide +kernel
theorem dX12_saying_48 : decode cX12_saying 48 = .ok (.goto 4, 3) := by decide +kernel
theorem dX12_saying_51 : decode cX12_saying 51 = .ok (.lconst 0, 1) := by decide +kernel
theorem dX12_saying_52 : decode cX12_saying 52 = .ok (.lreturn, 1) := by decide +kernel
theorem dX12_between_0 : decode cX12_between 0 = .ok (.aload_n 0, 1) := by decide +kernel
theorem dX12_between_1 : decode cX12_between 1 = .ok (.iconst 0, 1) := by decide +kernel
theorem dX12_between_2 : decode cX12_between 2 = .ok (.putfield 57, 3) := by decide +kernel
theorem dX12_between_5 : decode cX12_between 5 = .ok (.iload_n 1, 1) := by decide +kernel
theorem dX12_between_6 : decode cX12_between 6 = .ok (.invokestatic 164, 3) := by decide +kernel
theorem dX12_between_9 : decode cX12_between 9 = .ok (.ifCond .ne 7, 3) := by decide +kernel
theorem dX12_between_12 : decode cX12_between 12 = .ok (.iconst (-1), 1) := by decide +kernel
theorem dX12_between_13 : decode cX12_between 13 = .ok (.goto 28, 3) := by decide +kernel
theorem dX12_between_16 : decode cX12_between 16 = .ok (.aload_n 0, 1) := by decide +kernel
theorem dX12_between_17 : decode cX12_between 17 = .ok (.iload_n 1, 1) := by decide +kernel
theorem dX12_between_18 : decode cX12_between 18 = .ok (.aload_n 0, 1) := by decide +kernel
theorem dX12_between_19 : decode cX12_between 19 = .ok (.getfield 48, 3) := by decide +kernel
theorem dX12_between_22 : decode cX12_between 22 = .ok (.invokevirtual 170, 3) := by decide +kernel
theorem dX12_between_25 : decode cX12_between 25 = .ok (.ifCond .eq 14, 3) := by decide +kernel
theorem dX12_between_28 : decode cX12_between 28 = .ok (.aload_n 0, 1) := by decide +kernel
theorem dX12_between_29 : decode cX12_between 29 = .ok (.aload_n 0, 1) := by decide +kernel
theorem dX12_between_30 : decode cX12_between 30 = .ok (.getfield 48, 3) := by decide +kernel
theorem dX12_between_33 : decode cX12_between 33 = .ok (.invokevirtual 174, 3) := by decide +kernel
theorem dX12_between_36 : decode cX12_between 36 = .ok (.goto 5, 3) := by decide +kernel
theorem dX12_between_39 : decode cX12_between 39 = .ok (.bipush (-2), 2) := by decide +kernel
theorem dX12_between_41 : decode cX12_between 41 = .ok (.ireturn, 1) := by decide +kernel
theorem dX12_looks_0 : decode cX12_looks 0 = .ok (.aload_n 0, 1) := by decide +kernel
theorem dX12_looks_1 : decode cX12_looks 1 = .ok (.iconst 0, 1) := by decide +kernel
theorem dX12_looks_2 : decode cX12_looks 2 = .ok (.putfield 57, 3) := by decide +kernel
theorem dX12_looks_5 : decode cX12_looks 5 = .ok (.iload_n 1, 1) := by decide +kernel
theorem dX12_looks_6 : decode cX12_looks 6 = .ok (.iconst 0, 1) := by decide +kernel
theorem dX12_looks_7 : decode cX12_looks 7 = .ok (.iconst 5, 1) := by decide +kernel
theorem dX12_looks_8 : decode cX12_looks 8 = .ok (.invokestatic 60, 3) := by decide +kernel
theorem dX12_looks_11 : decode cX12_looks 11 = .ok (.ifCond .ne 7, 3) := by decide +kernel
theorem dX12_looks_14 : decode cX12_looks 14 = .ok (.iconst (-1), 1) := by decide +kernel
theorem dX12_looks_15 : decode cX12_looks 15 = .ok (.goto 27, 3) := by decide +kernel
theorem dX12_looks_18 : decode cX12_looks 18 = .ok (.aload_n 0, 1) := by decide +kernel
theorem dX12_looks_19 : decode cX12_looks 19 = .ok (.iload_n 1, 1) := by decide +kernel
theorem dX12_looks_20 : decode cX12_looks 20 = .ok (.aload_n 0, 1) := by decide +kernel
theorem dX12_looks_21 : decode cX12_looks 21 = .ok (.getfield 48, 3) := by decide +kernel
theorem dX12_looks_24 : decode cX12_looks 24 = .ok (.invokevirtual 170, 3) := by decide +kernel
theorem dX12_looks_27 : decode cX12_looks 27 = .ok (.ifCond .eq 13, 3) := by decide +kernel
theorem dX12_looks_30 : decode cX12_looks 30 = .ok (.aload_n 0, 1) := by decide +kernel
theorem dX12_looks_31 : decode cX12_looks 31 = .ok (.getfield 48, 3) := by decide +kernel
theorem dX12_looks_34 : decode cX12_looks 34 = .ok (.invokestatic 167, 3) := by decide +kernel
theorem dX12_looks_37 : decode cX12_looks 37 = .ok (.goto 5, 3) := by decide +kernel
theorem dX12_looks_40 : decode cX12_looks 40 = .ok (.bipush (-2), 2) := by decide +kernel
theorem dX12_looks_42 : decode cX12_looks 42 = .ok (.ireturn, 1) := by decide +kernel
theorem dX12_compare_0 : decode cX12_compare 0 = .ok (.aload_n 0, 1) := by decide +kernel
theorem dX12_compare_1 : decode cX12_compare 1 = .ok (.iconst 0, 1) := by decide +kernel
theorem dX12_compare_2 : decode cX12_compare 2 = .ok (.putfield 57, 3) := by decide +kernel
theorem dX12_compare_5 : decode cX12_compare 5 = .ok (.iload_n 1, 1) := by decide +kernel
theorem dX12_compare_6 : decode cX12_compare 6 = .ok (.iconst 0, 1) := by decide +kernel
theorem dX12_compare_7 : decode cX12_compare 7 = .ok (.iconst 5, 1) := by decide +kernel
theorem dX12_compare_8 : decode cX12_compare 8 = .ok (.invokestatic 60, 3) := by decide +kernel
theorem dX12_compare_11 : decode cX12_compare 11 = .ok (.ifCond .eq 12, 3) := by decide +kernel
theorem dX12_compare_14 : decode cX12_compare 14 = .ok (.iload_n 2, 1) := by decide +kernel
theorem dX12_compare_15 : decode cX12_compare 15 = .ok (.iconst 0, 1) := by decide +kernel
theorem dX12_compare_16 : decode cX12_compare 16 = .ok (.iconst 5, 1) := by decide +kernel
theorem dX12_compare_17 : decode cX12_compare 17 = .ok (.invokestatic 60, 3) := by decide +kernel
theorem dX12_compare_20 : decode cX12_compare 20 = .ok (.ifCond .ne 5, 3) := by decide +kernel
theorem dX12_compare_23 : decode cX12_compare 23 = .ok (.iconst (-1), 1) := by decide +kernel
theorem dX12_compare_24 : decode cX12_compare 24 = .ok (.ireturn, 1) := by decide +kernel
theorem dX12_compare_25 : decode cX12_compare 25 = .ok (.aload_n 0, 1) := by decide +kernel
theorem dX12_compare_26 : decode cX12_compare 26 = .ok (.iload_n 1, 1) := by decide +kernel
theorem dX12_compare_27 : decode cX12_compare 27 = .ok (.aload_n 0, 1) := by decide +kernel
theorem dX12_compare_28 : decode cX12_compare 28 = .ok (.getfield 48, 3) := by decide +kernel
theorem dX12_compare_31 : decode cX12_compare 31 = .ok (.invokevirtual 170, 3) := by decide +kernel
theorem dX12_compare_34 : decode cX12_compare 34 = .ok (.ifCond .eq 15, 3) := by decide +kernel
theorem dX12_compare_37 : decode cX12_compare 37 = .ok (.aload_n 0, 1) := by decide +kernel
theorem dX12_compare_38 : decode cX12_compare 38 = .ok (.iload_n 2, 1) := by decide +kernel
theorem dX12_compare_39 : decode cX12_compare 39 = .ok (.aload_n 0, 1) := by decide +kernel
theorem dX12_compare_40 : decode cX12_compare 40 = .ok (.getfield 51, 3) := by decide +kernel
theorem dX12_compare_43 : decode cX12_compare 43 = .ok (.invokevirtual 170, 3) := by decide +kernel
theorem dX12_compare_46 : decode cX12_compare 46 = .ok (.ifCond .ne 6, 3) := by decide +kernel
theorem dX12_compare_49 : decode cX12_compare 49 = .ok (.bipush (-2), 2) := by decide +kernel
theorem dX12_compare_51 : decode cX12_compare 51 = .ok (.ireturn, 1) := by decide +kernel
theorem dX12_compare_52 : decode cX12_compare 52 = .ok (.iconst 1, 1) := by decide +kernel
theorem dX12_compare_53 : decode cX12_compare 53 = .ok (.istore_n 3, 1) := by decide +kernel
theorem dX12_compare_54 : decode cX12_compare 54 = .ok (.iconst 1, 1) := by decide +kernel
theorem dX12_compare_55 : decode cX12_compare 55 = .ok (.istore 4, 2) := by decide +kernel
theorem dX12_compare_57 : decode cX12_compare 57 = .ok (.iconst 0, 1) := by decide +kernel
theorem dX12_compare_58 : decode cX12_compare 58 = .ok (.istore 5, 2) := by decide +kernel
theorem dX12_compare_60 : decode cX12_compare 60 = .ok (.iload 5, 2) := by decide +kernel
theorem dX12_compare_62 : decode cX12_compare 62 = .ok (.iconst 4, 1) := by decide +kernel
theorem dX12_compare_63 : decode cX12_compare 63 = .ok (.if_icmp .ge 79, 3) := by decide +kernel
theorem dX12_compare_66 : decode cX12_compare 66 = .ok (.iload_n 3, 1) := by decide +kernel
theorem dX12_compare_67 : decode cX12_compare 67 = .ok (.ifCond .eq 31, 3) := by decide +kernel
theorem dX12_compare_70 : decode cX12_compare 70 = .ok (.aload_n 0, 1) := by decide +kernel
theorem dX12_compare_71 : decode cX12_compare 71 = .ok (.getfield 48, 3) := by decide +kernel
theorem dX12_compare_74 : decode cX12_compare 74 = .ok (.iload 5, 2) := by decide +kernel
theorem dX12_compare_76 : decode cX12_compare 76 = .ok (.laload, 1) := by decide +kernel
theorem dX12_compare_77 : decode cX12_compare 77 = .ok (.aload_n 0, 1) := by decide +kernel
theorem dX12_compare_78 : decode cX12_compare 78 = .ok (.getfield 51, 3) := by decide +kernel
theorem dX12_compare_81 : decode cX12_compare 81 = .ok (.iload 5, 2) := by decide +kernel
theorem dX12_compare_83 : decode cX12_compare 83 = .ok (.laload, 1) := by decide +kernel
theorem dX12_compare_84 : decode cX12_compare 84 = .ok (.ldc2_w 137, 3) := by decide +kernel
theorem dX12_compare_87 : decode cX12_compare 87 = .ok (.lxor, 1) := by decide +kernel
theorem dX12_compare_88 : decode cX12_compare 88 = .ok (.land, 1) := by decide +kernel
theorem dX12_compare_89 : decode cX12_compare 89 = .ok (.lconst 0, 1) := by decide +kernel
theorem dX12_compare_90 : decode cX12_compare 90 = .ok (.lcmp, 1) := by decide +kernel
theorem dX12_compare_91 : decode cX12_compare 91 = .ok (.ifCond .ne 7, 3) := by decide +kernel
theorem dX12_compare_94 : decode cX12_compare 94 = .ok (.iconst 1, 1) := by decide +kernel
theorem dX12_compare_95 : decode cX12_compare 95 = .ok (.goto 4, 3) := by decide +kernel
theorem dX12_compare_98 : decode cX12_compare 98 = .ok (.iconst 0, 1) := by decide +kernel
theorem dX12_compare_99 : decode cX12_compare 99 = .ok (.istore_n 3, 1) := by decide +kernel
theorem dX12_compare_100 : decode cX12_compare 100 = .ok (.iload 4, 2) := by decide +kernel
theorem dX12_compare_102 : decode cX12_compare 102 = .ok (.ifCond .eq 31, 3) := by decide +kernel
theorem dX12_compare_105 : decode cX12_compare 105 = .ok (.aload_n 0, 1) := by decide +kernel
theorem dX12_compare_106 : decode cX12_compare 106 = .ok (.getfield 51, 3) := by decide +kernel
theorem dX12_compare_109 : decode cX12_compare 109 = .ok (.iload 5, 2) := by decide +kernel
theorem dX12_compare_111 : decode cX12_compare 111 = .ok (.laload, 1) := by decide +kernel
theorem dX12_compare_112 : decode cX12_compare 112 = .ok (.aload_n 0, 1) := by decide +kernel
theorem dX12_compare_113 : decode cX12_compare 113 = .ok (.getfield 48, 3) := by decide +kernel
theorem dX12_compare_116 : decode cX12_compare 116 = .ok (.iload 5, 2) := by decide +kernel
theorem dX12_compare_118 : decode cX12_compare 118 = .ok (.laload, 1) := by decide +kernel
theorem dX12_compare_119 : decode cX12_compare 119 = .ok (.ldc2_w 137, 3) := by decide +kernel
theorem dX12_compare_122 : decode cX12_compare 122 = .ok (.lxor, 1) := by decide +kernel
theorem dX12_compare_123 : decode cX12_compare 123 = .ok (.land, 1) := by decide +kernel
theorem dX12_compare_124 : decode cX12_compare 124 = .ok (.lconst 0, 1) := by decide +kernel
theorem dX12_compare_125 : decode cX12_compare 125 = .ok (.lcmp, 1) := by decide +kernel
theorem dX12_compare_126 : decode cX12_compare 126 = .ok (.ifCond .ne 7, 3) := by decide +kernel
theorem dX12_compare_129 : decode cX12_compare 129 = .ok (.iconst 1, 1) := by decide +kernel
theorem dX12_compare_130 : decode cX12_compare 130 = .ok (.goto 4, 3) := by decide +kernel
theorem dX12_compare_133 : decode cX12_compare 133 = .ok (.iconst 0, 1) := by decide +kernel
theorem dX12_compare_134 : decode cX12_compare 134 = .ok (.istore 4, 2) := by decide +kernel
theorem dX12_compare_136 : decode cX12_compare 136 = .ok (.iinc 5 1, 3) := by decide +kernel
theorem dX12_compare_139 : decode cX12_compare 139 = .ok (.goto (-79), 3) := by decide +kernel
theorem dX12_compare_142 : decode cX12_compare 142 = .ok (.iload_n 3, 1) := by decide +kernel
theorem dX12_compare_143 : decode cX12_compare 143 = .ok (.ifCond .eq 12, 3) := by decide +kernel
theorem dX12_compare_146 : decode cX12_compare 146 = .ok (.iload 4, 2) := by decide +kernel
theorem dX12_compare_148 : decode cX12_compare 148 = .ok (.ifCond .eq 7, 3) := by decide +kernel
theorem dX12_compare_151 : decode cX12_compare 151 = .ok (.iconst 0, 1) := by decide +kernel
theorem dX12_compare_152 : decode cX12_compare 152 = .ok (.goto 21, 3) := by decide +kernel
theorem dX12_compare_155 : decode cX12_compare 155 = .ok (.iload_n 3, 1) := by decide +kernel
theorem dX12_compare_156 : decode cX12_compare 156 = .ok (.ifCond .eq 7, 3) := by decide +kernel
theorem dX12_compare_159 : decode cX12_compare 159 = .ok (.iconst 1, 1) := by decide +kernel
theorem dX12_compare_160 : decode cX12_compare 160 = .ok (.goto 13, 3) := by decide +kernel
theorem dX12_compare_163 : decode cX12_compare 163 = .ok (.iload 4, 2) := by decide +kernel
theorem dX12_compare_165 : decode cX12_compare 165 = .ok (.ifCond .eq 7, 3) := by decide +kernel
theorem dX12_compare_168 : decode cX12_compare 168 = .ok (.iconst 2, 1) := by decide +kernel
theorem dX12_compare_169 : decode cX12_compare 169 = .ok (.goto 4, 3) := by decide +kernel
theorem dX12_compare_172 : decode cX12_compare 172 = .ok (.iconst 3, 1) := by decide +kernel
theorem dX12_compare_173 : decode cX12_compare 173 = .ok (.ireturn, 1) := by decide +kernel
theorem dX12_bounds__0 : decode cX12_bounds_ 0 = .ok (.aload_n 0, 1) := by decide +kernel
theorem dX12_bounds__1 : decode cX12_bounds_ 1 = .ok (.iconst 0, 1) := by decide +kernel
theorem dX12_bounds__2 : decode cX12_bounds_ 2 = .ok (.putfield 57, 3) := by decide +kernel
theorem dX12_bounds__5 : decode cX12_bounds_ 5 = .ok (.iconst 0, 1) := by decide +kernel
theorem dX12_bounds__6 : decode cX12_bounds_ 6 = .ok (.istore_n 2, 1) := by decide +kernel
theorem dX12_bounds__7 : decode cX12_bounds_ 7 = .ok (.iload_n 2, 1) := by decide +kernel
theorem dX12_bounds__8 : decode cX12_bounds_ 8 = .ok (.iconst 4, 1) := by decide +kernel
theorem dX12_bounds__9 : decode cX12_bounds_ 9 = .ok (.if_icmp .ge 32, 3) := by decide +kernel
theorem dX12_bounds__12 : decode cX12_bounds_ 12 = .ok (.aload_n 0, 1) := by decide +kernel
theorem dX12_bounds__13 : decode cX12_bounds_ 13 = .ok (.getfield 48, 3) := by decide +kernel
theorem dX12_bounds__16 : decode cX12_bounds_ 16 = .ok (.iload_n 2, 1) := by decide +kernel
theorem dX12_bounds__17 : decode cX12_bounds_ 17 = .ok (.aload_n 0, 1) := by decide +kernel
theorem dX12_bounds__18 : decode cX12_bounds_ 18 = .ok (.getfield 42, 3) := by decide +kernel
theorem dX12_bounds__21 : decode cX12_bounds_ 21 = .ok (.iload_n 2, 1) := by decide +kernel
theorem dX12_bounds__22 : decode cX12_bounds_ 22 = .ok (.laload, 1) := by decide +kernel
theorem dX12_bounds__23 : decode cX12_bounds_ 23 = .ok (.aload_n 0, 1) := by decide +kernel
theorem dX12_bounds__24 : decode cX12_bounds_ 24 = .ok (.getfield 39, 3) := by decide +kernel
theorem dX12_bounds__27 : decode cX12_bounds_ 27 = .ok (.iload_n 2, 1) := by decide +kernel
theorem dX12_bounds__28 : decode cX12_bounds_ 28 = .ok (.laload, 1) := by decide +kernel
theorem dX12_bounds__29 : decode cX12_bounds_ 29 = .ok (.ldc2_w 137, 3) := by decide +kernel
theorem dX12_bounds__32 : decode cX12_bounds_ 32 = .ok (.lxor, 1) := by decide +kernel
theorem dX12_bounds__33 : decode cX12_bounds_ 33 = .ok (.land, 1) := by decide +kernel
theorem dX12_bounds__34 : decode cX12_bounds_ 34 = .ok (.lastore, 1) := by decide +kernel
theorem dX12_bounds__35 : decode cX12_bounds_ 35 = .ok (.iinc 2 1, 3) := by decide +kernel
theorem dX12_bounds__38 : decode cX12_bounds_ 38 = .ok (.goto (-31), 3) := by decide +kernel
theorem dX12_bounds__41 : decode cX12_bounds_ 41 = .ok (.iload_n 1, 1) := by decide +kernel
theorem dX12_bounds__42 : decode cX12_bounds_ 42 = .ok (.ifCond .ne 13, 3) := by decide +kernel
theorem dX12_bounds__45 : decode cX12_bounds_ 45 = .ok (.aload_n 0, 1) := by decide +kernel
theorem dX12_bounds__46 : decode cX12_bounds_ 46 = .ok (.getfield 39, 3) := by decide +kernel
theorem dX12_bounds__49 : decode cX12_bounds_ 49 = .ok (.invokestatic 160, 3) := by decide +kernel
theorem dX12_bounds__52 : decode cX12_bounds_ 52 = .ok (.goto 45, 3) := by decide +kernel
theorem dX12_bounds__55 : decode cX12_bounds_ 55 = .ok (.iload_n 1, 1) := by decide +kernel
theorem dX12_bounds__56 : decode cX12_bounds_ 56 = .ok (.iconst 1, 1) := by decide +kernel
theorem dX12_bounds__57 : decode cX12_bounds_ 57 = .ok (.if_icmp .ne 13, 3) := by decide +kernel
theorem dX12_bounds__60 : decode cX12_bounds_ 60 = .ok (.aload_n 0, 1) := by decide +kernel
theorem dX12_bounds__61 : decode cX12_bounds_ 61 = .ok (.getfield 42, 3) := by decide +kernel
theorem dX12_bounds__64 : decode cX12_bounds_ 64 = .ok (.invokestatic 160, 3) := by decide +kernel
theorem dX12_bounds__67 : decode cX12_bounds_ 67 = .ok (.goto 30, 3) := by decide +kernel
theorem dX12_bounds__70 : decode cX12_bounds_ 70 = .ok (.iload_n 1, 1) := by decide +kernel
theorem dX12_bounds__71 : decode cX12_bounds_ 71 = .ok (.iconst 2, 1) := by decide +kernel
theorem dX12_bounds__72 : decode cX12_bounds_ 72 = .ok (.if_icmp .ne 24, 3) := by decide +kernel
theorem dX12_bounds__75 : decode cX12_bounds_ 75 = .ok (.aload_n 0, 1) := by decide +kernel
theorem dX12_bounds__76 : decode cX12_bounds_ 76 = .ok (.getfield 48, 3) := by decide +kernel
theorem dX12_bounds__79 : decode cX12_bounds_ 79 = .ok (.invokestatic 160, 3) := by decide +kernel
theorem dX12_bounds__82 : decode cX12_bounds_ 82 = .ok (.bipush 8, 2) := by decide +kernel
theorem dX12_bounds__84 : decode cX12_bounds_ 84 = .ok (.aload_n 0, 1) := by decide +kernel
theorem dX12_bounds__85 : decode cX12_bounds_ 85 = .ok (.invokevirtual 133, 3) := by decide +kernel
theorem dX12_bounds__88 : decode cX12_bounds_ 88 = .ok (.invokestatic 177, 3) := by decide +kernel
theorem dX12_bounds__91 : decode cX12_bounds_ 91 = .ok (.isub, 1) := by decide +kernel
theorem dX12_bounds__92 : decode cX12_bounds_ 92 = .ok (.ishr, 1) := by decide +kernel
theorem dX12_bounds__93 : decode cX12_bounds_ 93 = .ok (.goto 4, 3) := by decide +kernel
theorem dX12_bounds__96 : decode cX12_bounds_ 96 = .ok (.iconst (-1), 1) := by decide +kernel
theorem dX12_bounds__97 : decode cX12_bounds_ 97 = .ok (.ireturn, 1) := by decide +kernel
theorem dX12_tell_0 : decode cX12_tell 0 = .ok (.aload_n 0, 1) := by decide +kernel
theorem dX12_tell_1 : decode cX12_tell 1 = .ok (.iconst 0, 1) := by decide +kernel
theorem dX12_tell_2 : decode cX12_tell 2 = .ok (.putfield 57, 3) := by decide +kernel
theorem dX12_tell_5 : decode cX12_tell 5 = .ok (.iload_n 1, 1) := by decide +kernel
theorem dX12_tell_6 : decode cX12_tell 6 = .ok (.iconst 0, 1) := by decide +kernel
theorem dX12_tell_7 : decode cX12_tell 7 = .ok (.sipush 255, 3) := by decide +kernel
theorem dX12_tell_10 : decode cX12_tell 10 = .ok (.invokestatic 60, 3) := by decide +kernel
theorem dX12_tell_13 : decode cX12_tell 13 = .ok (.ifCond .eq 12, 3) := by decide +kernel
theorem dX12_tell_16 : decode cX12_tell 16 = .ok (.iload_n 2, 1) := by decide +kernel
theorem dX12_tell_17 : decode cX12_tell 17 = .ok (.iconst 0, 1) := by decide +kernel
theorem dX12_tell_18 : decode cX12_tell 18 = .ok (.iconst 1, 1) := by decide +kernel
theorem dX12_tell_19 : decode cX12_tell 19 = .ok (.invokestatic 60, 3) := by decide +kernel
theorem dX12_tell_22 : decode cX12_tell 22 = .ok (.ifCond .ne 5, 3) := by decide +kernel
theorem dX12_tell_25 : decode cX12_tell 25 = .ok (.iconst (-1), 1) := by decide +kernel
theorem dX12_tell_26 : decode cX12_tell 26 = .ok (.ireturn, 1) := by decide +kernel
theorem dX12_tell_27 : decode cX12_tell 27 = .ok (.aload_n 0, 1) := by decide +kernel
theorem dX12_tell_28 : decode cX12_tell 28 = .ok (.getfield 45, 3) := by decide +kernel
theorem dX12_tell_31 : decode cX12_tell 31 = .ok (.iconst 0, 1) := by decide +kernel
theorem dX12_tell_32 : decode cX12_tell 32 = .ok (.iload_n 1, 1) := by decide +kernel
theorem dX12_tell_33 : decode cX12_tell 33 = .ok (.invokestatic 143, 3) := by decide +kernel
theorem dX12_tell_36 : decode cX12_tell 36 = .ok (.ifCond .eq 7, 3) := by decide +kernel
theorem dX12_tell_39 : decode cX12_tell 39 = .ok (.iconst 1, 1) := by decide +kernel
theorem dX12_tell_40 : decode cX12_tell 40 = .ok (.goto 4, 3) := by decide +kernel
theorem dX12_tell_43 : decode cX12_tell 43 = .ok (.iconst 0, 1) := by decide +kernel
theorem dX12_tell_44 : decode cX12_tell 44 = .ok (.istore_n 3, 1) := by decide +kernel
theorem dX12_tell_45 : decode cX12_tell 45 = .ok (.lconst 1, 1) := by decide +kernel
theorem dX12_tell_46 : decode cX12_tell 46 = .ok (.iload_n 1, 1) := by decide +kernel
theorem dX12_tell_47 : decode cX12_tell 47 = .ok (.bipush 63, 2) := by decide +kernel
theorem dX12_tell_49 : decode cX12_tell 49 = .ok (.iand, 1) := by decide +kernel
theorem dX12_tell_50 : decode cX12_tell 50 = .ok (.lshl, 1) := by decide +kernel
theorem dX12_tell_51 : decode cX12_tell 51 = .ok (.lstore 4, 2) := by decide +kernel
theorem dX12_tell_53 : decode cX12_tell 53 = .ok (.aload_n 0, 1) := by decide +kernel
theorem dX12_tell_54 : decode cX12_tell 54 = .ok (.getfield 45, 3) := by decide +kernel
theorem dX12_tell_57 : decode cX12_tell 57 = .ok (.iload_n 1, 1) := by decide +kernel
theorem dX12_tell_58 : decode cX12_tell 58 = .ok (.bipush 6, 2) := by decide +kernel
theorem dX12_tell_60 : decode cX12_tell 60 = .ok (.ishr, 1) := by decide +kernel
theorem dX12_tell_61 : decode cX12_tell 61 = .ok (.iload_n 2, 1) := by decide +kernel
theorem dX12_tell_62 : decode cX12_tell 62 = .ok (.iconst 1, 1) := by decide +kernel
theorem dX12_tell_63 : decode cX12_tell 63 = .ok (.if_icmp .ne 18, 3) := by decide +kernel
theorem dX12_tell_66 : decode cX12_tell 66 = .ok (.aload_n 0, 1) := by decide +kernel
theorem dX12_tell_67 : decode cX12_tell 67 = .ok (.getfield 45, 3) := by decide +kernel
theorem dX12_tell_70 : decode cX12_tell 70 = .ok (.iload_n 1, 1) := by decide +kernel
theorem dX12_tell_71 : decode cX12_tell 71 = .ok (.bipush 6, 2) := by decide +kernel
theorem dX12_tell_73 : decode cX12_tell 73 = .ok (.ishr, 1) := by decide +kernel
theorem dX12_tell_74 : decode cX12_tell 74 = .ok (.laload, 1) := by decide +kernel
theorem dX12_tell_75 : decode cX12_tell 75 = .ok (.lload 4, 2) := by decide +kernel
theorem dX12_tell_77 : decode cX12_tell 77 = .ok (.lor, 1) := by decide +kernel
theorem dX12_tell_78 : decode cX12_tell 78 = .ok (.goto 19, 3) := by decide +kernel
theorem dX12_tell_81 : decode cX12_tell 81 = .ok (.aload_n 0, 1) := by decide +kernel
theorem dX12_tell_82 : decode cX12_tell 82 = .ok (.getfield 45, 3) := by decide +kernel
theorem dX12_tell_85 : decode cX12_tell 85 = .ok (.iload_n 1, 1) := by decide +kernel
theorem dX12_tell_86 : decode cX12_tell 86 = .ok (.bipush 6, 2) := by decide +kernel
theorem dX12_tell_88 : decode cX12_tell 88 = .ok (.ishr, 1) := by decide +kernel
theorem dX12_tell_89 : decode cX12_tell 89 = .ok (.laload, 1) := by decide +kernel
theorem dX12_tell_90 : decode cX12_tell 90 = .ok (.lload 4, 2) := by decide +kernel
theorem dX12_tell_92 : decode cX12_tell 92 = .ok (.ldc2_w 137, 3) := by decide +kernel
theorem dX12_tell_95 : decode cX12_tell 95 = .ok (.lxor, 1) := by decide +kernel
theorem dX12_tell_96 : decode cX12_tell 96 = .ok (.land, 1) := by decide +kernel
theorem dX12_tell_97 : decode cX12_tell 97 = .ok (.lastore, 1) := by decide +kernel
theorem dX12_tell_98 : decode cX12_tell 98 = .ok (.iload_n 3, 1) := by decide +kernel
theorem dX12_tell_99 : decode cX12_tell 99 = .ok (.ireturn, 1) := by decide +kernel
theorem dX12_check_0 : decode cX12_check 0 = .ok (.aload_n 0, 1) := by decide +kernel
theorem dX12_check_1 : decode cX12_check 1 = .ok (.iconst 0, 1) := by decide +kernel
theorem dX12_check_2 : decode cX12_check 2 = .ok (.putfield 57, 3) := by decide +kernel
theorem dX12_check_5 : decode cX12_check 5 = .ok (.aload_n 0, 1) := by decide +kernel
theorem dX12_check_6 : decode cX12_check 6 = .ok (.aload_n 0, 1) := by decide +kernel
theorem dX12_check_7 : decode cX12_check 7 = .ok (.getfield 45, 3) := by decide +kernel
theorem dX12_check_10 : decode cX12_check 10 = .ok (.invokevirtual 174, 3) := by decide +kernel
theorem dX12_check_13 : decode cX12_check 13 = .ok (.ireturn, 1) := by decide +kernel
theorem dX12_labour_0 : decode cX12_labour 0 = .ok (.aload_n 0, 1) := by decide +kernel
theorem dX12_labour_1 : decode cX12_labour 1 = .ok (.iconst 0, 1) := by decide +kernel
theorem dX12_labour_2 : decode cX12_labour 2 = .ok (.putfield 57, 3) := by decide +kernel
theorem dX12_labour_5 : decode cX12_labour 5 = .ok (.iload_n 1, 1) := by decide +kernel
theorem dX12_labour_6 : decode cX12_labour 6 = .ok (.iconst 0, 1) := by decide +kernel
theorem dX12_labour_7 : decode cX12_labour 7 = .ok (.iconst 3, 1) := by decide +kernel
theorem dX12_labour_8 : decode cX12_labour 8 = .ok (.invokestatic 60, 3) := by decide +kernel
theorem dX12_labour_11 : decode cX12_labour 11 = .ok (.ifCond .eq 11, 3) := by decide +kernel
theorem dX12_labour_14 : decode cX12_labour 14 = .ok (.aload_n 0, 1) := by decide +kernel
theorem dX12_labour_15 : decode cX12_labour 15 = .ok (.iload_n 2, 1) := by decide +kernel
theorem dX12_labour_16 : decode cX12_labour 16 = .ok (.invokevirtual 157, 3) := by decide +kernel
theorem dX12_labour_19 : decode cX12_labour 19 = .ok (.ifCond .ne 5, 3) := by decide +kernel
theorem dX12_labour_22 : decode cX12_labour 22 = .ok (.iconst (-1), 1) := by decide +kernel
theorem dX12_labour_23 : decode cX12_labour 23 = .ok (.ireturn, 1) := by decide +kernel
theorem dX12_labour_24 : decode cX12_labour 24 = .ok (.aload_n 0, 1) := by decide +kernel
theorem dX12_labour_25 : decode cX12_labour 25 = .ok (.getfield 17, 3) := by decide +kernel
theorem dX12_labour_28 : decode cX12_labour 28 = .ok (.bipush 6, 2) := by decide +kernel
theorem dX12_labour_30 : decode cX12_labour 30 = .ok (.iload_n 2, 1) := by decide +kernel
theorem dX12_labour_31 : decode cX12_labour 31 = .ok (.imul, 1) := by decide +kernel
theorem dX12_labour_32 : decode cX12_labour 32 = .ok (.iaload, 1) := by decide +kernel
theorem dX12_labour_33 : decode cX12_labour 33 = .ok (.invokestatic 177, 3) := by decide +kernel
theorem dX12_labour_36 : decode cX12_labour 36 = .ok (.aload_n 0, 1) := by decide +kernel
theorem dX12_labour_37 : decode cX12_labour 37 = .ok (.getfield 17, 3) := by decide +kernel
theorem dX12_labour_40 : decode cX12_labour 40 = .ok (.bipush 6, 2) := by decide +kernel
theorem dX12_labour_42 : decode cX12_labour 42 = .ok (.iload_n 2, 1) := by decide +kernel
theorem dX12_labour_43 : decode cX12_labour 43 = .ok (.imul, 1) := by decide +kernel
theorem dX12_labour_44 : decode cX12_labour 44 = .ok (.iconst 1, 1) := by decide +kernel
theorem dX12_labour_45 : decode cX12_labour 45 = .ok (.iadd, 1) := by decide +kernel
theorem dX12_labour_46 : decode cX12_labour 46 = .ok (.iaload, 1) := by decide +kernel
theorem dX12_labour_47 : decode cX12_labour 47 = .ok (.invokestatic 177, 3) := by decide +kernel
theorem dX12_labour_50 : decode cX12_labour 50 = .ok (.iadd, 1) := by decide +kernel
theorem dX12_labour_51 : decode cX12_labour 51 = .ok (.istore_n 3, 1) := by decide +kernel
theorem dX12_labour_52 : decode cX12_labour 52 = .ok (.iconst 0, 1) := by decide +kernel
theorem dX12_labour_53 : decode cX12_labour 53 = .ok (.istore 4, 2) := by decide +kernel
theorem dX12_labour_55 : decode cX12_labour 55 = .ok (.iload 4, 2) := by decide +kernel
theorem dX12_labour_57 : decode cX12_labour 57 = .ok (.iconst 4, 1) := by decide +kernel
theorem dX12_labour_58 : decode cX12_labour 58 = .ok (.if_icmp .ge 27, 3) := by decide +kernel
theorem dX12_labour_61 : decode cX12_labour 61 = .ok (.aload_n 0, 1) := by decide +kernel
theorem dX12_labour_62 : decode cX12_labour 62 = .ok (.getfield 48, 3) := by decide +kernel
theorem dX12_labour_65 : decode cX12_labour 65 = .ok (.iload 4, 2) := by decide +kernel
theorem dX12_labour_67 : decode cX12_labour 67 = .ok (.aload_n 0, 1) := by decide +kernel
theorem dX12_labour_68 : decode cX12_labour 68 = .ok (.getfield 30, 3) := by decide +kernel
theorem dX12_labour_71 : decode cX12_labour 71 = .ok (.iconst 4, 1) := by decide +kernel
theorem dX12_labour_72 : decode cX12_labour 72 = .ok (.iload_n 2, 1) := by decide +kernel
theorem dX12_labour_73 : decode cX12_labour 73 = .ok (.imul, 1) := by decide +kernel
theorem dX12_labour_74 : decode cX12_labour 74 = .ok (.iload 4, 2) := by decide +kernel
theorem dX12_labour_76 : decode cX12_labour 76 = .ok (.iadd, 1) := by decide +kernel
theorem dX12_labour_77 : decode cX12_labour 77 = .ok (.laload, 1) := by decide +kernel
theorem dX12_labour_78 : decode cX12_labour 78 = .ok (.lastore, 1) := by decide +kernel
theorem dX12_labour_79 : decode cX12_labour 79 = .ok (.iinc 4 1, 3) := by decide +kernel
theorem dX12_labour_82 : decode cX12_labour 82 = .ok (.goto (-27), 3) := by decide +kernel
theorem dX12_labour_85 : decode cX12_labour 85 = .ok (.iload_n 3, 1) := by decide +kernel
theorem dX12_labour_86 : decode cX12_labour 86 = .ok (.aload_n 0, 1) := by decide +kernel
theorem dX12_labour_87 : decode cX12_labour 87 = .ok (.getfield 48, 3) := by decide +kernel
theorem dX12_labour_90 : decode cX12_labour 90 = .ok (.invokestatic 160, 3) := by decide +kernel
theorem dX12_labour_93 : decode cX12_labour 93 = .ok (.iadd, 1) := by decide +kernel
theorem dX12_labour_94 : decode cX12_labour 94 = .ok (.istore 4, 2) := by decide +kernel
theorem dX12_labour_96 : decode cX12_labour 96 = .ok (.aload_n 0, 1) := by decide +kernel
theorem dX12_labour_97 : decode cX12_labour 97 = .ok (.dup, 1) := by decide +kernel
theorem dX12_labour_98 : decode cX12_labour 98 = .ok (.getfield 183, 3) := by decide +kernel
theorem dX12_labour_101 : decode cX12_labour 101 = .ok (.iload_n 1, 1) := by decide +kernel
theorem dX12_labour_102 : decode cX12_labour 102 = .ok (.ifCond .ne 7, 3) := by decide +kernel
theorem dX12_labour_105 : decode cX12_labour 105 = .ok (.lconst 1, 1) := by decide +kernel
theorem dX12_labour_106 : decode cX12_labour 106 = .ok (.goto 28, 3) := by decide +kernel
theorem dX12_labour_109 : decode cX12_labour 109 = .ok (.iload_n 1, 1) := by decide +kernel
theorem dX12_labour_110 : decode cX12_labour 110 = .ok (.iconst 1, 1) := by decide +kernel
theorem dX12_labour_111 : decode cX12_labour 111 = .ok (.if_icmp .ne 9, 3) := by decide +kernel
theorem dX12_labour_114 : decode cX12_labour 114 = .ok (.ldc2_w 187, 3) := by decide +kernel
theorem dX12_labour_117 : decode cX12_labour 117 = .ok (.goto 17, 3) := by decide +kernel
theorem dX12_labour_120 : decode cX12_labour 120 = .ok (.iload_n 1, 1) := by decide +kernel
theorem dX12_labour_121 : decode cX12_labour 121 = .ok (.iconst 2, 1) := by decide +kernel
theorem dX12_labour_122 : decode cX12_labour 122 = .ok (.if_icmp .ne 9, 3) := by decide +kernel
theorem dX12_labour_125 : decode cX12_labour 125 = .ok (.ldc2_w 189, 3) := by decide +kernel
theorem dX12_labour_128 : decode cX12_labour 128 = .ok (.goto 6, 3) := by decide +kernel
theorem dX12_labour_131 : decode cX12_labour 131 = .ok (.ldc2_w 191, 3) := by decide +kernel
theorem dX12_labour_134 : decode cX12_labour 134 = .ok (.ladd, 1) := by decide +kernel
theorem dX12_labour_135 : decode cX12_labour 135 = .ok (.putfield 183, 3) := by decide +kernel
theorem dX12_labour_138 : decode cX12_labour 138 = .ok (.iload_n 1, 1) := by decide +kernel
theorem dX12_labour_139 : decode cX12_labour 139 = .ok (.ifCond .ne 7, 3) := by decide +kernel
theorem dX12_labour_142 : decode cX12_labour 142 = .ok (.iload_n 3, 1) := by decide +kernel
theorem dX12_labour_143 : decode cX12_labour 143 = .ok (.goto 30, 3) := by decide +kernel
theorem dX12_labour_146 : decode cX12_labour 146 = .ok (.iload_n 1, 1) := by decide +kernel
theorem dX12_labour_147 : decode cX12_labour 147 = .ok (.iconst 1, 1) := by decide +kernel
theorem dX12_labour_148 : decode cX12_labour 148 = .ok (.if_icmp .ne 8, 3) := by decide +kernel
theorem dX12_labour_151 : decode cX12_labour 151 = .ok (.iload 4, 2) := by decide +kernel
theorem dX12_labour_153 : decode cX12_labour 153 = .ok (.goto 20, 3) := by decide +kernel
theorem dX12_labour_156 : decode cX12_labour 156 = .ok (.iload_n 1, 1) := by decide +kernel
theorem dX12_labour_157 : decode cX12_labour 157 = .ok (.iconst 2, 1) := by decide +kernel
theorem dX12_labour_158 : decode cX12_labour 158 = .ok (.if_icmp .ne 11, 3) := by decide +kernel
theorem dX12_labour_161 : decode cX12_labour 161 = .ok (.iconst 2, 1) := by decide +kernel
theorem dX12_labour_162 : decode cX12_labour 162 = .ok (.iload_n 3, 1) := by decide +kernel
theorem dX12_labour_163 : decode cX12_labour 163 = .ok (.imul, 1) := by decide +kernel
theorem dX12_labour_164 : decode cX12_labour 164 = .ok (.iconst 1, 1) := by decide +kernel
theorem dX12_labour_165 : decode cX12_labour 165 = .ok (.iadd, 1) := by decide +kernel
theorem dX12_labour_166 : decode cX12_labour 166 = .ok (.goto 7, 3) := by decide +kernel
theorem dX12_labour_169 : decode cX12_labour 169 = .ok (.iload 4, 2) := by decide +kernel
theorem dX12_labour_171 : decode cX12_labour 171 = .ok (.iconst 2, 1) := by decide +kernel
theorem dX12_labour_172 : decode cX12_labour 172 = .ok (.idiv, 1) := by decide +kernel
theorem dX12_labour_173 : decode cX12_labour 173 = .ok (.ireturn, 1) := by decide +kernel
theorem dX12_count_0 : decode cX12_count 0 = .ok (.aload_n 0, 1) := by decide +kernel
theorem dX12_count_1 : decode cX12_count 1 = .ok (.iconst 0, 1) := by decide +kernel
theorem dX12_count_2 : decode cX12_count 2 = .ok (.putfield 57, 3) := by decide +kernel
theorem dX12_count_5 : decode cX12_count 5 = .ok (.iload_n 1, 1) := by decide +kernel
theorem dX12_count_6 : decode cX12_count 6 = .ok (.ifCond .ne 10, 3) := by decide +kernel
theorem dX12_count_9 : decode cX12_count 9 = .ok (.aload_n 0, 1) := by decide +kernel
theorem dX12_count_10 : decode cX12_count 10 = .ok (.getfield 112, 3) := by decide +kernel
theorem dX12_count_13 : decode cX12_count 13 = .ok (.goto 70, 3) := by decide +kernel
theorem dX12_count_16 : decode cX12_count 16 = .ok (.iload_n 1, 1) := by decide +kernel
theorem dX12_count_17 : decode cX12_count 17 = .ok (.iconst 1, 1) := by decide +kernel
theorem dX12_count_18 : decode cX12_count 18 = .ok (.if_icmp .ne 10, 3) := by decide +kernel
theorem dX12_count_21 : decode cX12_count 21 = .ok (.aload_n 0, 1) := by decide +kernel
theorem dX12_count_22 : decode cX12_count 22 = .ok (.getfield 115, 3) := by decide +kernel
theorem dX12_count_25 : decode cX12_count 25 = .ok (.goto 58, 3) := by decide +kernel
theorem dX12_count_28 : decode cX12_count 28 = .ok (.iload_n 1, 1) := by decide +kernel
theorem dX12_count_29 : decode cX12_count 29 = .ok (.iconst 2, 1) := by decide +kernel
theorem dX12_count_30 : decode cX12_count 30 = .ok (.if_icmp .ne 10, 3) := by decide +kernel
theorem dX12_count_33 : decode cX12_count 33 = .ok (.aload_n 0, 1) := by decide +kernel
theorem dX12_count_34 : decode cX12_count 34 = .ok (.getfield 118, 3) := by decide +kernel
theorem dX12_count_37 : decode cX12_count 37 = .ok (.goto 46, 3) := by decide +kernel
theorem dX12_count_40 : decode cX12_count 40 = .ok (.iload_n 1, 1) := by decide +kernel
theorem dX12_count_41 : decode cX12_count 41 = .ok (.iconst 3, 1) := by decide +kernel
theorem dX12_count_42 : decode cX12_count 42 = .ok (.if_icmp .ne 13, 3) := by decide +kernel
theorem dX12_count_45 : decode cX12_count 45 = .ok (.aload_n 0, 1) := by decide +kernel
theorem dX12_count_46 : decode cX12_count 46 = .ok (.invokevirtual 133, 3) := by decide +kernel
theorem dX12_count_49 : decode cX12_count 49 = .ok (.invokestatic 177, 3) := by decide +kernel
theorem dX12_count_52 : decode cX12_count 52 = .ok (.goto 31, 3) := by decide +kernel
theorem dX12_count_55 : decode cX12_count 55 = .ok (.iload_n 1, 1) := by decide +kernel
theorem dX12_count_56 : decode cX12_count 56 = .ok (.iconst 4, 1) := by decide +kernel
theorem dX12_count_57 : decode cX12_count 57 = .ok (.if_icmp .ne 10, 3) := by decide +kernel
theorem dX12_count_60 : decode cX12_count 60 = .ok (.aload_n 0, 1) := by decide +kernel
theorem dX12_count_61 : decode cX12_count 61 = .ok (.getfield 64, 3) := by decide +kernel
theorem dX12_count_64 : decode cX12_count 64 = .ok (.goto 19, 3) := by decide +kernel
theorem dX12_count_67 : decode cX12_count 67 = .ok (.iload_n 1, 1) := by decide +kernel
theorem dX12_count_68 : decode cX12_count 68 = .ok (.iconst 5, 1) := by decide +kernel
theorem dX12_count_69 : decode cX12_count 69 = .ok (.if_icmp .ne 13, 3) := by decide +kernel
theorem dX12_count_72 : decode cX12_count 72 = .ok (.aload_n 0, 1) := by decide +kernel
theorem dX12_count_73 : decode cX12_count 73 = .ok (.getfield 45, 3) := by decide +kernel
theorem dX12_count_76 : decode cX12_count 76 = .ok (.invokestatic 160, 3) := by decide +kernel
theorem dX12_count_79 : decode cX12_count 79 = .ok (.goto 4, 3) := by decide +kernel
theorem dX12_count_82 : decode cX12_count 82 = .ok (.iconst (-1), 1) := by decide +kernel
theorem dX12_count_83 : decode cX12_count 83 = .ok (.ireturn, 1) := by decide +kernel
theorem dX12_trace_0 : decode cX12_trace 0 = .ok (.aload_n 0, 1) := by decide +kernel
theorem dX12_trace_1 : decode cX12_trace 1 = .ok (.iconst 0, 1) := by decide +kernel
theorem dX12_trace_2 : decode cX12_trace 2 = .ok (.putfield 57, 3) := by decide +kernel
theorem dX12_trace_5 : decode cX12_trace 5 = .ok (.aload_n 0, 1) := by decide +kernel
theorem dX12_trace_6 : decode cX12_trace 6 = .ok (.getfield 183, 3) := by decide +kernel
theorem dX12_trace_9 : decode cX12_trace 9 = .ok (.lreturn, 1) := by decide +kernel
set_option maxRecDepth 20000 in
set_option maxHeartbeats 1000000 in
theorem s_X12_wrong {xs : Nat → Int32} {L d : Nat} {h : ev_H} {th : Int32} {tr : Int64} {ty nx tk pl va fa ss wg : Int32} {c m : Nat} (hS : SH h) (h5 : h 420 = c420 th tr ty nx tk pl va fa (nI c) (nI m) ss wg) (hc : c ≤ 16) (hm : m ≤ 24) : EV xs L (d + 0) 0 0 M_X12_wrong 434 h 0 [some (.ref 420)] [] (fun sz' h' r => sz' = 434 ∧ SH h' ∧ KM [420, 431, 432, 433] h h' ∧ (∃ x : Int32, r = [.int x]) ∧ ∃ tr', h' 420 = c420 0 tr' ty nx tk pl va fa (nI c) (nI m) ss wg) := by
  refine r_aload_n rfl dX12_wrong_0 rfl ?_
  refine r_iconst (v := 0) rfl dX12_wrong_1 (by decide) ?_
  refine m_put 0 (fs' := [.int 0, .long tr, .ref 421, .int ty, .int nx, .int tk, .int pl, .int va, .int fa, .int (nI c), .int (nI m), .int ss, .int wg, .ref 422, .ref 423, .ref 424, .ref 425, .ref 426, .ref 427, .ref 428, .ref 429, .ref 430, .ref 431, .ref 432, .ref 433]) rfl dX12_wrong_2 hS (KM_rf (Mod := [420, 431, 432, 433]) h) (by decide) h5 (fp_X12_57 rfl _) (Nat.le_of_ble_eq_true rfl) rfl (fun h51 hS52 hF53 f54 => ?_)
  refine r_aload_n rfl dX12_wrong_5 rfl ?_
  refine r_getv 12 rfl dX12_wrong_6 (show 2 ≤ 420 ∧ 420 < 434 by decide) f54 fl_X12_13 rfl ?_
  exact r_ret dX12_wrong_9 (rt_i rfl) ⟨rfl, hS52, hF53, ⟨_, rfl⟩, ⟨_, f54⟩⟩
set_option maxRecDepth 20000 in
set_option maxHeartbeats 1000000 in
theorem s_X12_end {xs : Nat → Int32} {L d : Nat} {h : ev_H} {th : Int32} {tr : Int64} {ty nx tk pl va fa ss wg : Int32} {c m : Nat} (hS : SH h) (h5 : h 420 = c420 th tr ty nx tk pl va fa (nI c) (nI m) ss wg) (hc : c ≤ 16) (hm : m ≤ 24) : EV xs L (d + 1) 0 0 M_X12_end 434 h 0 [some (.ref 420)] [] (fun sz' h' r => sz' = 434 ∧ SH h' ∧ KM [420, 431, 432, 433] h h' ∧ (∃ x : Int32, r = [.int x]) ∧ ∃ tr', h' 420 = c420 0 tr' ty nx tk pl va fa (nI c) (nI m) ss wg) := by
  refine r_aload_n rfl dX12_end_0 rfl ?_
  refine r_iconst (v := 0) rfl dX12_end_1 (by decide) ?_
  refine m_put 0 (fs' := [.int 0, .long tr, .ref 421, .int ty, .int nx, .int tk, .int pl, .int va, .int fa, .int (nI c), .int (nI m), .int ss, .int wg, .ref 422, .ref 423, .ref 424, .ref 425, .ref 426, .ref 427, .ref 428, .ref 429, .ref 430, .ref 431, .ref 432, .ref 433]) rfl dX12_end_2 hS (KM_rf (Mod := [420, 431, 432, 433]) h) (by decide) h5 (fp_X12_57 rfl _) (Nat.le_of_ble_eq_true rfl) rfl (fun h51 hS52 hF53 f54 => ?_)
  refine r_aload_n rfl dX12_end_5 rfl ?_
  refine cl_X12_154 rfl rfl dX12_end_6 (show 2 ≤ 420 ∧ 420 < 434 by decide).1 (show 2 ≤ 420 ∧ 420 < 434 by decide).2 f54 (Nat.le_of_ble_eq_true rfl) (s_X12_ending hS52 f54 hc hm) ?_
  rintro _ h55 _ ⟨rfl, e56, H57⟩
  replace e56 := e56.symm
  subst e56
  rcases H57 with rfl | ⟨j58, q59, rfl⟩
  · exact r_ret dX12_end_9 (rt_i rfl) ⟨rfl, hS52, hF53, ⟨_, rfl⟩, ⟨_, f54⟩⟩
  · exact r_ret dX12_end_9 (rt_i rfl) ⟨rfl, hS52, hF53, ⟨_, rfl⟩, ⟨_, f54⟩⟩
set_option maxRecDepth 20000 in
set_option maxHeartbeats 1000000 in
theorem s_X12_line {xs : Nat → Int32} {L d : Nat} {h : ev_H} {th : Int32} {tr : Int64} {ty nx tk pl va fa ss wg : Int32} {c m : Nat} {x y : Int32} (hS : SH h) (h5 : h 420 = c420 th tr ty nx tk pl va fa (nI c) (nI m) ss wg) (hc : c ≤ 16) (hm : m ≤ 24) : EV xs L (d + 2) 0 0 M_X12_line 434 h 0 [some (.ref 420), some (.int x), some (.int y)] [] (fun sz' h' r => sz' = 434 ∧ SH h' ∧ KM [420, 431, 432, 433] h h' ∧ (∃ x : Int32, r = [.int x]) ∧ ∃ tr', h' 420 = c420 0 tr' ty nx tk pl va fa (nI c) (nI m) ss wg) := by
  refine r_aload_n rfl dX12_line_0 rfl ?_
  refine r_iconst (v := 0) rfl dX12_line_1 (by decide) ?_
  refine m_put 0 (fs' := [.int 0, .long tr, .ref 421, .int ty, .int nx, .int tk, .int pl, .int va, .int fa, .int (nI c), .int (nI m), .int ss, .int wg, .ref 422, .ref 423, .ref 424, .ref 425, .ref 426, .ref 427, .ref 428, .ref 429, .ref 430, .ref 431, .ref 432, .ref 433]) rfl dX12_line_2 hS (KM_rf (Mod := [420, 431, 432, 433]) h) (by decide) h5 (fp_X12_57 rfl _) (Nat.le_of_ble_eq_true rfl) rfl (fun h51 hS52 hF53 f54 => ?_)
  refine r_aload_n rfl dX12_line_5 rfl ?_
  refine r_iload_n rfl dX12_line_6 rfl ?_
  refine cl_X12_157 rfl rfl dX12_line_7 (show 2 ≤ 420 ∧ 420 < 434 by decide).1 (show 2 ≤ 420 ∧ 420 < 434 by decide).2 f54 (Nat.le_of_ble_eq_true rfl) (s_X12_isLine hS52 f54 hc hm) ?_
  rintro _ h55 _ ⟨rfl, e56, rfl⟩
  replace e56 := e56.symm
  subst e56
  refine r_if_eq (tgt := 36) rfl rfl dX12_line_10 (fun c57 => ?_) (fun c57 => ?_)
  · refine r_iconst (v := (-1)) rfl dX12_line_36 (by decide) ?_
    exact r_ret dX12_line_37 (rt_i rfl) ⟨rfl, hS52, hF53, ⟨_, rfl⟩, ⟨_, f54⟩⟩
  · obtain ⟨j58, q59, e60⟩ := isLn (n := c + m) (by omega) c57
    subst e60
    refine r_iload_n rfl dX12_line_13 rfl ?_
    refine r_iconst (v := 0) rfl dX12_line_14 (by decide) ?_
    refine r_iconst (v := 5) rfl dX12_line_15 (by decide) ?_
    refine cl_X12_60 rfl rfl dX12_line_16 (Nat.le_of_ble_eq_true rfl) s_X12_in ?_
    rintro _ h61 _ ⟨rfl, e62, rfl⟩
    replace e62 := e62.symm
    subst e62
    refine r_if_eq (tgt := 36) rfl rfl dX12_line_19 (fun c63 => ?_) (fun c63 => ?_)
    · refine r_iconst (v := (-1)) rfl dX12_line_36 (by decide) ?_
      exact r_ret dX12_line_37 (rt_i rfl) ⟨rfl, hS52, hF53, ⟨_, rfl⟩, ⟨_, f54⟩⟩
    · obtain ⟨j64, q65, q66, e67⟩ := inR_nat (a := 0) (b := 5) (by omega) c63
      subst e67
      refine r_aload_n rfl dX12_line_22 rfl ?_
      refine r_getv 13 rfl dX12_line_23 (show 2 ≤ 420 ∧ 420 < 434 by decide) f54 fl_X12_17 rfl ?_
      refine r_bipush (v := 6) rfl dX12_line_26 (by decide) ?_
      refine r_iload_n rfl dX12_line_28 rfl ?_
      refine r_imul rfl dX12_line_29 ?_
      refine r_eqi (y := nI (6 * j58)) (show 6 * (nI j58) = nI (6 * j58) from pk_mul 6 j58) ?_
      refine r_iload_n rfl dX12_line_30 rfl ?_
      refine r_iadd rfl dX12_line_31 ?_
      refine r_eqi (y := nI ((6 * j58) + j64)) (show (nI (6 * j58)) + (nI j64) = nI ((6 * j58) + j64) from nI_add (6 * j58) j64) ?_
      obtain ⟨g68, f69⟩ := hS52.li LI_422
      refine r_ialdv (jn := (6 * j58) + j64) (v := g68 ((6 * j58) + j64)) rfl dX12_line_32 (show 2 ≤ 422 ∧ 422 < 434 by decide) f69 (vp_in_nI (n := (6 * j58) + j64) (by omega) (by omega)) (nI_clamp (n := (6 * j58) + j64) (by omega)) rfl ?_
      refine r_goto (pc' := 37) rfl dX12_line_33 ?_
      exact r_ret dX12_line_37 (rt_i rfl) ⟨rfl, hS52, hF53, ⟨_, rfl⟩, ⟨_, f54⟩⟩
set_option maxRecDepth 20000 in
set_option maxHeartbeats 1000000 in
theorem s_X12_side {xs : Nat → Int32} {L d : Nat} {h : ev_H} {th : Int32} {tr : Int64} {ty nx tk pl va fa ss wg : Int32} {c m : Nat} {x : Int32} (hS : SH h) (h5 : h 420 = c420 th tr ty nx tk pl va fa (nI c) (nI m) ss wg) (hc : c ≤ 16) (hm : m ≤ 24) : EV xs L (d + 1) 0 0 M_X12_side 434 h 0 [some (.ref 420), some (.int x)] [] (fun sz' h' r => sz' = 434 ∧ SH h' ∧ KM [420, 431, 432, 433] h h' ∧ (∃ x : Int32, r = [.int x]) ∧ ∃ tr', h' 420 = c420 0 tr' ty nx tk pl va fa (nI c) (nI m) ss wg) := by
  refine r_aload_n rfl dX12_side_0 rfl ?_
  refine r_iconst (v := 0) rfl dX12_side_1 (by decide) ?_
  refine m_put 0 (fs' := [.int 0, .long tr, .ref 421, .int ty, .int nx, .int tk, .int pl, .int va, .int fa, .int (nI c), .int (nI m), .int ss, .int wg, .ref 422, .ref 423, .ref 424, .ref 425, .ref 426, .ref 427, .ref 428, .ref 429, .ref 430, .ref 431, .ref 432, .ref 433]) rfl dX12_side_2 hS (KM_rf (Mod := [420, 431, 432, 433]) h) (by decide) h5 (fp_X12_57 rfl _) (Nat.le_of_ble_eq_true rfl) rfl (fun h51 hS52 hF53 f54 => ?_)
  refine r_iload_n rfl dX12_side_5 rfl ?_
  refine r_iconst (v := 0) rfl dX12_side_6 (by decide) ?_
  refine r_bipush (v := 7) rfl dX12_side_7 (by decide) ?_
  refine cl_X12_60 rfl rfl dX12_side_9 (Nat.le_of_ble_eq_true rfl) s_X12_in ?_
  rintro _ h55 _ ⟨rfl, e56, rfl⟩
  replace e56 := e56.symm
  subst e56
  refine r_if_eq (tgt := 39) rfl rfl dX12_side_12 (fun c57 => ?_) (fun c57 => ?_)
  · refine r_iconst (v := (-1)) rfl dX12_side_39 (by decide) ?_
    exact r_ret dX12_side_40 (rt_i rfl) ⟨rfl, hS52, hF53, ⟨_, rfl⟩, ⟨_, f54⟩⟩
  · obtain ⟨j58, q59, q60, e61⟩ := inR_nat (a := 0) (b := 7) (by omega) c57
    subst e61
    refine r_aload_n rfl dX12_side_15 rfl ?_
    refine r_iconst (v := 1) rfl dX12_side_16 (by decide) ?_
    refine cl_X12_130 rfl rfl dX12_side_17 (show 2 ≤ 420 ∧ 420 < 434 by decide).1 (show 2 ≤ 420 ∧ 420 < 434 by decide).2 f54 (Nat.le_of_ble_eq_true rfl) (s_X12_lettersOf hS52 f54 hc hm) ?_
    rintro _ h62 _ ⟨rfl, e63, x64, rfl⟩
    replace e63 := e63.symm
    subst e63
    refine r_iload_n rfl dX12_side_20 rfl ?_
    refine r_ishr rfl dX12_side_21 ?_
    refine r_iconst (v := 1) rfl dX12_side_22 (by decide) ?_
    refine r_iand rfl dX12_side_23 ?_
    refine r_iconst (v := 2) rfl dX12_side_24 (by decide) ?_
    refine r_aload_n rfl dX12_side_25 rfl ?_
    refine r_iconst (v := 2) rfl dX12_side_26 (by decide) ?_
    refine cl_X12_130 rfl rfl dX12_side_27 (show 2 ≤ 420 ∧ 420 < 434 by decide).1 (show 2 ≤ 420 ∧ 420 < 434 by decide).2 f54 (Nat.le_of_ble_eq_true rfl) (s_X12_lettersOf hS52 f54 hc hm) ?_
    rintro _ h65 _ ⟨rfl, e66, x67, rfl⟩
    replace e66 := e66.symm
    subst e66
    refine r_iload_n rfl dX12_side_30 rfl ?_
    refine r_ishr rfl dX12_side_31 ?_
    refine r_iconst (v := 1) rfl dX12_side_32 (by decide) ?_
    refine r_iand rfl dX12_side_33 ?_
    refine r_imul rfl dX12_side_34 ?_
    refine r_iadd rfl dX12_side_35 ?_
    refine r_goto (pc' := 40) rfl dX12_side_36 ?_
    exact r_ret dX12_side_40 (rt_i rfl) ⟨rfl, hS52, hF53, ⟨_, rfl⟩, ⟨_, f54⟩⟩
set_option maxRecDepth 20000 in
set_option maxHeartbeats 1000000 in
theorem s_X12_holds {xs : Nat → Int32} {L d : Nat} {h : ev_H} {th : Int32} {tr : Int64} {ty nx tk pl va fa ss wg : Int32} {c m : Nat} {x y : Int32} (hS : SH h) (h5 : h 420 = c420 th tr ty nx tk pl va fa (nI c) (nI m) ss wg) (hc : c ≤ 16) (hm : m ≤ 24) : EV xs L (d + 2) 0 0 M_X12_holds 434 h 0 [some (.ref 420), some (.int x), some (.int y)] [] (fun sz' h' r => sz' = 434 ∧ SH h' ∧ KM [420, 431, 432, 433] h h' ∧ (∃ x : Int32, r = [.int x]) ∧ ∃ tr', h' 420 = c420 0 tr' ty nx tk pl va fa (nI c) (nI m) ss wg) := by
  refine r_aload_n rfl dX12_holds_0 rfl ?_
  refine r_iconst (v := 0) rfl dX12_holds_1 (by decide) ?_
  refine m_put 0 (fs' := [.int 0, .long tr, .ref 421, .int ty, .int nx, .int tk, .int pl, .int va, .int fa, .int (nI c), .int (nI m), .int ss, .int wg, .ref 422, .ref 423, .ref 424, .ref 425, .ref 426, .ref 427, .ref 428, .ref 429, .ref 430, .ref 431, .ref 432, .ref 433]) rfl dX12_holds_2 hS (KM_rf (Mod := [420, 431, 432, 433]) h) (by decide) h5 (fp_X12_57 rfl _) (Nat.le_of_ble_eq_true rfl) rfl (fun h51 hS52 hF53 f54 => ?_)
  refine r_aload_n rfl dX12_holds_5 rfl ?_
  refine r_iload_n rfl dX12_holds_6 rfl ?_
  refine cl_X12_157 rfl rfl dX12_holds_7 (show 2 ≤ 420 ∧ 420 < 434 by decide).1 (show 2 ≤ 420 ∧ 420 < 434 by decide).2 f54 (Nat.le_of_ble_eq_true rfl) (s_X12_isLine hS52 f54 hc hm) ?_
  rintro _ h55 _ ⟨rfl, e56, rfl⟩
  replace e56 := e56.symm
  subst e56
  refine r_if_eq (tgt := 24) rfl rfl dX12_holds_10 (fun c57 => ?_) (fun c57 => ?_)
  · refine r_iconst (v := (-1)) rfl dX12_holds_24 (by decide) ?_
    refine r_goto (pc' := 47) rfl dX12_holds_25 ?_
    exact r_ret dX12_holds_47 (rt_i rfl) ⟨rfl, hS52, hF53, ⟨_, rfl⟩, ⟨_, f54⟩⟩
  · obtain ⟨j58, q59, e60⟩ := isLn (n := c + m) (by omega) c57
    subst e60
    refine r_iload_n rfl dX12_holds_13 rfl ?_
    refine r_iconst (v := 0) rfl dX12_holds_14 (by decide) ?_
    refine r_sipush (v := 255) rfl dX12_holds_15 (by decide) ?_
    refine cl_X12_60 rfl rfl dX12_holds_18 (Nat.le_of_ble_eq_true rfl) s_X12_in ?_
    rintro _ h61 _ ⟨rfl, e62, rfl⟩
    replace e62 := e62.symm
    subst e62
    refine r_if_ne (tgt := 28) rfl rfl dX12_holds_21 (fun c63 => ?_) (fun c63 => ?_)
    · obtain ⟨j64, q65, q66, e67⟩ := inR_nat (a := 0) (b := 255) (by omega) c63
      subst e67
      refine r_aload_n rfl dX12_holds_28 rfl ?_
      refine r_getv 16 rfl dX12_holds_29 (show 2 ≤ 420 ∧ 420 < 434 by decide) f54 fl_X12_26 rfl ?_
      refine r_iconst (v := 4) rfl dX12_holds_32 (by decide) ?_
      refine r_iload_n rfl dX12_holds_33 rfl ?_
      refine r_imul rfl dX12_holds_34 ?_
      refine r_eqi (y := nI (4 * j58)) (show 4 * (nI j58) = nI (4 * j58) from pk_mul 4 j58) ?_
      refine r_iload_n rfl dX12_holds_35 rfl ?_
      refine cl_X12_143 rfl rfl dX12_holds_36 (Nat.le_of_ble_eq_true rfl) (s_X12_has hS52 LA_425 (by omega) (q := 4 * j58) (w := j64) (by omega) (by omega)) ?_
      rintro _ h68 _ ⟨rfl, e69, x70, z71, rfl⟩
      replace e69 := e69.symm
      subst e69
      refine r_if_eq (tgt := 46) rfl rfl dX12_holds_39 (fun c72 => ?_) (fun c72 => ?_)
      · refine r_iconst (v := 0) rfl dX12_holds_46 (by decide) ?_
        exact r_ret dX12_holds_47 (rt_i rfl) ⟨rfl, hS52, hF53, ⟨_, rfl⟩, ⟨_, f54⟩⟩
      · refine r_iconst (v := 1) rfl dX12_holds_42 (by decide) ?_
        refine r_goto (pc' := 47) rfl dX12_holds_43 ?_
        exact r_ret dX12_holds_47 (rt_i rfl) ⟨rfl, hS52, hF53, ⟨_, rfl⟩, ⟨_, f54⟩⟩
    · refine r_iconst (v := (-1)) rfl dX12_holds_24 (by decide) ?_
      refine r_goto (pc' := 47) rfl dX12_holds_25 ?_
      exact r_ret dX12_holds_47 (rt_i rfl) ⟨rfl, hS52, hF53, ⟨_, rfl⟩, ⟨_, f54⟩⟩
set_option maxRecDepth 20000 in
set_option maxHeartbeats 1000000 in
theorem lp_X12_worlds_7 {xs : Nat → Int32} {L d : Nat} {Q : ev_Q} {th : Int32} {tr : Int64} {ty nx tk pl va fa ss wg : Int32} {c m : Nat} {x : Int32} {h0 : ev_H} (h5 : h0 420 = c420 th tr ty nx tk pl va fa (nI c) (nI m) ss wg) (hc : c ≤ 16) (hm : m ≤ 24) : ∀ (n k : Nat), k + n = 4 → ∀ (h : ev_H) (hS : SH h) (hF : KM [431, 432, 433] h0 h)  (hK : ∀ (h : ev_H) (hS : SH h) (hF : KM [431, 432, 433] h0 h) (kx : Int32) , EV xs L (d + 2) 0 0 M_X12_worlds 434 h 37 [some (.ref 420), some (.int x), some (.int kx)] [] Q), EV xs L (d + 2) 0 0 M_X12_worlds 434 h 7 [some (.ref 420), some (.int x), some (.int (nI k))] [] Q := by
  intro n
  induction n with
  | zero =>
    intro k hk h hS hF  hK
    refine r_iload_n rfl dX12_worlds_7 rfl ?_
    refine r_iconst (v := 4) rfl dX12_worlds_8 (by decide) ?_
    refine r_icmp_ge (tgt := 37) rfl rfl dX12_worlds_9 (fun _ => ?_) (fun zc => absurd (show 4 ≤ nI k from nI_le (a := 4) (b := k) (by omega) (by omega)) zc)
    exact hK h hS hF (nI k) 
  | succ n ih =>
    intro k hk h hS hF  hK
    refine r_iload_n rfl dX12_worlds_7 rfl ?_
    refine r_iconst (v := 4) rfl dX12_worlds_8 (by decide) ?_
    refine r_icmp_ge (tgt := 37) rfl rfl dX12_worlds_9 (fun zc => absurd zc (show ¬ 4 ≤ nI k from nI_ge (a := k) (b := 4) (by omega) (by omega))) (fun _ => ?_)
    refine r_aload_n rfl dX12_worlds_12 rfl ?_
    refine r_getv 23 rfl dX12_worlds_13 (show 2 ≤ 420 ∧ 420 < 434 by decide) ((hF 420 (by decide)).trans h5) fl_X12_48 rfl ?_
    refine r_iload_n rfl dX12_worlds_16 rfl ?_
    refine r_aload_n rfl dX12_worlds_17 rfl ?_
    refine r_getv 18 rfl dX12_worlds_18 (show 2 ≤ 420 ∧ 420 < 434 by decide) ((hF 420 (by decide)).trans h5) fl_X12_33 rfl ?_
    refine r_iload_n rfl dX12_worlds_21 rfl ?_
    obtain ⟨g155, f156⟩ := hS.la LA_427
    refine r_laldv (jn := k) (v := g155 k) rfl dX12_worlds_22 (show 2 ≤ 427 ∧ 427 < 434 by decide) f156 (vp_in_nI (n := k) (by omega) (by omega)) (nI_clamp (n := k) (by omega)) rfl ?_
    refine r_aload_n rfl dX12_worlds_23 rfl ?_
    refine r_getv 19 rfl dX12_worlds_24 (show 2 ≤ 420 ∧ 420 < 434 by decide) ((hF 420 (by decide)).trans h5) fl_X12_36 rfl ?_
    refine r_iload_n rfl dX12_worlds_27 rfl ?_
    obtain ⟨g157, f158⟩ := hS.la LA_428
    refine r_laldv (jn := k) (v := g157 k) rfl dX12_worlds_28 (show 2 ≤ 428 ∧ 428 < 434 by decide) f158 (vp_in_nI (n := k) (by omega) (by omega)) (nI_clamp (n := k) (by omega)) rfl ?_
    refine r_land rfl dX12_worlds_29 ?_
    obtain ⟨g159, f160⟩ := hS.la LA_432
    refine m_last rfl dX12_worlds_30 (show 2 ≤ 432 ∧ 432 < 434 by decide) hS hF (by decide) f160 (vp_in_nI (n := k) (by omega) (by omega)) (fun h161 hS162 hF163 hN164 => ?_)
    refine r_iinc (y := nI (k + 1)) (ls' := [some (.ref 420), some (.int x), some (.int (nI (k + 1)))]) rfl dX12_worlds_31 rfl (nI_1 k) (Nat.le_of_ble_eq_true rfl) rfl ?_
    refine r_goto (pc' := 7) rfl dX12_worlds_34 ?_
    exact ih (k + 1) (by omega) h161 hS162 hF163  hK
set_option maxRecDepth 20000 in
set_option maxHeartbeats 1000000 in
theorem s_X12_worlds {xs : Nat → Int32} {L d : Nat} {h : ev_H} {th : Int32} {tr : Int64} {ty nx tk pl va fa ss wg : Int32} {c m : Nat} {x : Int32} (hS : SH h) (h5 : h 420 = c420 th tr ty nx tk pl va fa (nI c) (nI m) ss wg) (hc : c ≤ 16) (hm : m ≤ 24) : EV xs L (d + 2) 0 0 M_X12_worlds 434 h 0 [some (.ref 420), some (.int x), none] [] (fun sz' h' r => sz' = 434 ∧ SH h' ∧ KM [420, 431, 432, 433] h h' ∧ (∃ x : Int32, r = [.int x]) ∧ ∃ tr', h' 420 = c420 0 tr' ty nx tk pl va fa (nI c) (nI m) ss wg) := by
  refine r_aload_n rfl dX12_worlds_0 rfl ?_
  refine r_iconst (v := 0) rfl dX12_worlds_1 (by decide) ?_
  refine m_put 0 (fs' := [.int 0, .long tr, .ref 421, .int ty, .int nx, .int tk, .int pl, .int va, .int fa, .int (nI c), .int (nI m), .int ss, .int wg, .ref 422, .ref 423, .ref 424, .ref 425, .ref 426, .ref 427, .ref 428, .ref 429, .ref 430, .ref 431, .ref 432, .ref 433]) rfl dX12_worlds_2 hS (KM_rf (Mod := [420, 431, 432, 433]) h) (by decide) h5 (fp_X12_57 rfl _) (Nat.le_of_ble_eq_true rfl) rfl (fun h51 hS52 hF53 f54 => ?_)
  refine r_iconst (v := 0) rfl dX12_worlds_5 (by decide) ?_
  refine r_istore_n (ls' := [some (.ref 420), some (.int x), some (.int 0)]) rfl dX12_worlds_6 (Nat.le_of_ble_eq_true rfl) rfl ?_
  refine lp_X12_worlds_7 f54 hc hm (4 - 0) 0 (by omega) h51 hS52 (KM_rf _)  ?_
  intro h56 hS57 hK58 kx55 
  have hF59 := KM_tr hF53 (KM_sb (by decide) hK58)
  have f60 : h56 420 = c420 0 tr ty nx tk pl va fa (nI c) (nI m) ss wg := (hK58 420 (by decide)).trans f54
  refine r_iload_n rfl dX12_worlds_37 rfl ?_
  refine r_if_ne (tgt := 51) rfl rfl dX12_worlds_38 (fun c61 => ?_) (fun c61 => ?_)
  · refine r_iload_n rfl dX12_worlds_51 rfl ?_
    refine r_iconst (v := 1) rfl dX12_worlds_52 (by decide) ?_
    refine r_icmp_ne (tgt := 66) rfl rfl dX12_worlds_53 (fun c62 => ?_) (fun c62 => ?_)
    · refine r_iload_n rfl dX12_worlds_66 rfl ?_
      refine r_iconst (v := 2) rfl dX12_worlds_67 (by decide) ?_
      refine r_icmp_ne (tgt := 81) rfl rfl dX12_worlds_68 (fun c63 => ?_) (fun c63 => ?_)
      · refine r_iconst (v := (-1)) rfl dX12_worlds_81 (by decide) ?_
        exact r_ret dX12_worlds_82 (rt_i rfl) ⟨rfl, hS57, hF59, ⟨_, rfl⟩, ⟨_, f60⟩⟩
      · refine r_aload_n rfl dX12_worlds_71 rfl ?_
        refine r_getv 23 rfl dX12_worlds_72 (show 2 ≤ 420 ∧ 420 < 434 by decide) f60 fl_X12_48 rfl ?_
        refine cl_X12_160 rfl rfl dX12_worlds_75 (Nat.le_of_ble_eq_true rfl) (s_X12_many hS57 LA_432) ?_
        rintro _ h64 _ ⟨rfl, e65, x66, rfl⟩
        replace e65 := e65.symm
        subst e65
        refine r_goto (pc' := 82) rfl dX12_worlds_78 ?_
        exact r_ret dX12_worlds_82 (rt_i rfl) ⟨rfl, hS57, hF59, ⟨_, rfl⟩, ⟨_, f60⟩⟩
    · refine r_aload_n rfl dX12_worlds_56 rfl ?_
      refine r_getv 19 rfl dX12_worlds_57 (show 2 ≤ 420 ∧ 420 < 434 by decide) f60 fl_X12_36 rfl ?_
      refine cl_X12_160 rfl rfl dX12_worlds_60 (Nat.le_of_ble_eq_true rfl) (s_X12_many hS57 LA_428) ?_
      rintro _ h67 _ ⟨rfl, e68, x69, rfl⟩
      replace e68 := e68.symm
      subst e68
      refine r_goto (pc' := 82) rfl dX12_worlds_63 ?_
      exact r_ret dX12_worlds_82 (rt_i rfl) ⟨rfl, hS57, hF59, ⟨_, rfl⟩, ⟨_, f60⟩⟩
  · refine r_aload_n rfl dX12_worlds_41 rfl ?_
    refine r_getv 18 rfl dX12_worlds_42 (show 2 ≤ 420 ∧ 420 < 434 by decide) f60 fl_X12_33 rfl ?_
    refine cl_X12_160 rfl rfl dX12_worlds_45 (Nat.le_of_ble_eq_true rfl) (s_X12_many hS57 LA_427) ?_
    rintro _ h70 _ ⟨rfl, e71, x72, rfl⟩
    replace e71 := e71.symm
    subst e71
    refine r_goto (pc' := 82) rfl dX12_worlds_48 ?_
    exact r_ret dX12_worlds_82 (rt_i rfl) ⟨rfl, hS57, hF59, ⟨_, rfl⟩, ⟨_, f60⟩⟩
set_option maxRecDepth 20000 in
set_option maxHeartbeats 1000000 in
theorem s_X12_says {xs : Nat → Int32} {L d : Nat} {h : ev_H} {th : Int32} {tr : Int64} {ty nx tk pl va fa ss wg : Int32} {c m : Nat} {x y z : Int32} (hS : SH h) (h5 : h 420 = c420 th tr ty nx tk pl va fa (nI c) (nI m) ss wg) (hc : c ≤ 16) (hm : m ≤ 24) : EV xs L (d + 2) 0 0 M_X12_says 434 h 0 [some (.ref 420), some (.int x), some (.int y), some (.int z)] [] (fun sz' h' r => sz' = 434 ∧ SH h' ∧ KM [420, 431, 432, 433] h h' ∧ (∃ x : Int32, r = [.int x]) ∧ ∃ tr', h' 420 = c420 0 tr' ty nx tk pl va fa (nI c) (nI m) ss wg) := by
  refine r_aload_n rfl dX12_says_0 rfl ?_
  refine r_iconst (v := 0) rfl dX12_says_1 (by decide) ?_
  refine m_put 0 (fs' := [.int 0, .long tr, .ref 421, .int ty, .int nx, .int tk, .int pl, .int va, .int fa, .int (nI c), .int (nI m), .int ss, .int wg, .ref 422, .ref 423, .ref 424, .ref 425, .ref 426, .ref 427, .ref 428, .ref 429, .ref 430, .ref 431, .ref 432, .ref 433]) rfl dX12_says_2 hS (KM_rf (Mod := [420, 431, 432, 433]) h) (by decide) h5 (fp_X12_57 rfl _) (Nat.le_of_ble_eq_true rfl) rfl (fun h51 hS52 hF53 f54 => ?_)
  refine r_iload_n rfl dX12_says_5 rfl ?_
  refine cl_X12_164 rfl rfl dX12_says_6 (Nat.le_of_ble_eq_true rfl) (s_X12_isWay hS52) ?_
  rintro _ h55 _ ⟨rfl, e56, rfl⟩
  replace e56 := e56.symm
  subst e56
  refine r_if_eq (tgt := 31) rfl rfl dX12_says_9 (fun c57 => ?_) (fun c57 => ?_)
  · refine r_iconst (v := (-1)) rfl dX12_says_31 (by decide) ?_
    refine r_goto (pc' := 60) rfl dX12_says_32 ?_
    exact r_ret dX12_says_60 (rt_i rfl) ⟨rfl, hS52, hF53, ⟨_, rfl⟩, ⟨_, f54⟩⟩
  · obtain ⟨j58, q59, q60, e61⟩ := inR_nat (a := 0) (b := 2) (by omega) c57
    subst e61
    refine r_aload_n rfl dX12_says_12 rfl ?_
    refine r_iload_n rfl dX12_says_13 rfl ?_
    refine cl_X12_157 rfl rfl dX12_says_14 (show 2 ≤ 420 ∧ 420 < 434 by decide).1 (show 2 ≤ 420 ∧ 420 < 434 by decide).2 f54 (Nat.le_of_ble_eq_true rfl) (s_X12_isLine hS52 f54 hc hm) ?_
    rintro _ h62 _ ⟨rfl, e63, rfl⟩
    replace e63 := e63.symm
    subst e63
    refine r_if_eq (tgt := 31) rfl rfl dX12_says_17 (fun c64 => ?_) (fun c64 => ?_)
    · refine r_iconst (v := (-1)) rfl dX12_says_31 (by decide) ?_
      refine r_goto (pc' := 60) rfl dX12_says_32 ?_
      exact r_ret dX12_says_60 (rt_i rfl) ⟨rfl, hS52, hF53, ⟨_, rfl⟩, ⟨_, f54⟩⟩
    · obtain ⟨j65, q66, e67⟩ := isLn (n := c + m) (by omega) c64
      subst e67
      refine r_iload_n rfl dX12_says_20 rfl ?_
      refine r_iconst (v := 0) rfl dX12_says_21 (by decide) ?_
      refine r_sipush (v := 255) rfl dX12_says_22 (by decide) ?_
      refine cl_X12_60 rfl rfl dX12_says_25 (Nat.le_of_ble_eq_true rfl) s_X12_in ?_
      rintro _ h68 _ ⟨rfl, e69, rfl⟩
      replace e69 := e69.symm
      subst e69
      refine r_if_ne (tgt := 35) rfl rfl dX12_says_28 (fun c70 => ?_) (fun c70 => ?_)
      · obtain ⟨j71, q72, q73, e74⟩ := inR_nat (a := 0) (b := 255) (by omega) c70
        subst e74
        refine r_aload_n rfl dX12_says_35 rfl ?_
        refine r_getv 17 rfl dX12_says_36 (show 2 ≤ 420 ∧ 420 < 434 by decide) f54 fl_X12_30 rfl ?_
        refine r_sipush (v := 160) rfl dX12_says_39 (by decide) ?_
        refine r_iload_n rfl dX12_says_42 rfl ?_
        refine r_imul rfl dX12_says_43 ?_
        refine r_eqi (y := nI (160 * j58)) (show 160 * (nI j58) = nI (160 * j58) from pk_mul 160 j58) ?_
        refine r_iconst (v := 4) rfl dX12_says_44 (by decide) ?_
        refine r_iload_n rfl dX12_says_45 rfl ?_
        refine r_imul rfl dX12_says_46 ?_
        refine r_eqi (y := nI (4 * j65)) (show 4 * (nI j65) = nI (4 * j65) from pk_mul 4 j65) ?_
        refine r_iadd rfl dX12_says_47 ?_
        refine r_eqi (y := nI ((160 * j58) + (4 * j65))) (show (nI (160 * j58)) + (nI (4 * j65)) = nI ((160 * j58) + (4 * j65)) from nI_add (160 * j58) (4 * j65)) ?_
        refine r_iload_n rfl dX12_says_48 rfl ?_
        refine cl_X12_143 rfl rfl dX12_says_49 (Nat.le_of_ble_eq_true rfl) (s_X12_has hS52 LA_426 (by omega) (q := (160 * j58) + (4 * j65)) (w := j71) (by omega) (by omega)) ?_
        rintro _ h75 _ ⟨rfl, e76, x77, z78, rfl⟩
        replace e76 := e76.symm
        subst e76
        refine r_if_eq (tgt := 59) rfl rfl dX12_says_52 (fun c79 => ?_) (fun c79 => ?_)
        · refine r_iconst (v := 0) rfl dX12_says_59 (by decide) ?_
          exact r_ret dX12_says_60 (rt_i rfl) ⟨rfl, hS52, hF53, ⟨_, rfl⟩, ⟨_, f54⟩⟩
        · refine r_iconst (v := 1) rfl dX12_says_55 (by decide) ?_
          refine r_goto (pc' := 60) rfl dX12_says_56 ?_
          exact r_ret dX12_says_60 (rt_i rfl) ⟨rfl, hS52, hF53, ⟨_, rfl⟩, ⟨_, f54⟩⟩
      · refine r_iconst (v := (-1)) rfl dX12_says_31 (by decide) ?_
        refine r_goto (pc' := 60) rfl dX12_says_32 ?_
        exact r_ret dX12_says_60 (rt_i rfl) ⟨rfl, hS52, hF53, ⟨_, rfl⟩, ⟨_, f54⟩⟩
set_option maxRecDepth 20000 in
set_option maxHeartbeats 1000000 in
theorem s_X12_saying {xs : Nat → Int32} {L d : Nat} {h : ev_H} {th : Int32} {tr : Int64} {ty nx tk pl va fa ss wg : Int32} {c m : Nat} {x y : Int32} (hS : SH h) (h5 : h 420 = c420 th tr ty nx tk pl va fa (nI c) (nI m) ss wg) (hc : c ≤ 16) (hm : m ≤ 24) : EV xs L (d + 2) 0 0 M_X12_saying 434 h 0 [some (.ref 420), some (.int x), some (.int y), none] [] (fun sz' h' r => sz' = 434 ∧ SH h' ∧ KM [420, 431, 432, 433] h h' ∧ (∃ x : Int64, r = [.long x]) ∧ ∃ tr', h' 420 = c420 0 tr' ty nx tk pl va fa (nI c) (nI m) ss wg) := by
  refine r_aload_n rfl dX12_saying_0 rfl ?_
  refine r_iconst (v := 0) rfl dX12_saying_1 (by decide) ?_
  refine m_put 0 (fs' := [.int 0, .long tr, .ref 421, .int ty, .int nx, .int tk, .int pl, .int va, .int fa, .int (nI c), .int (nI m), .int ss, .int wg, .ref 422, .ref 423, .ref 424, .ref 425, .ref 426, .ref 427, .ref 428, .ref 429, .ref 430, .ref 431, .ref 432, .ref 433]) rfl dX12_saying_2 hS (KM_rf (Mod := [420, 431, 432, 433]) h) (by decide) h5 (fp_X12_57 rfl _) (Nat.le_of_ble_eq_true rfl) rfl (fun h51 hS52 hF53 f54 => ?_)
  refine r_aload_n rfl dX12_saying_5 rfl ?_
  refine cl_X12_154 rfl rfl dX12_saying_6 (show 2 ≤ 420 ∧ 420 < 434 by decide).1 (show 2 ≤ 420 ∧ 420 < 434 by decide).2 f54 (Nat.le_of_ble_eq_true rfl) (s_X12_ending hS52 f54 hc hm) ?_
  rintro _ h55 _ ⟨rfl, e56, H57⟩
  replace e56 := e56.symm
  subst e56
  rcases H57 with rfl | ⟨j58, q59, rfl⟩
  · refine r_istore_n (ls' := [some (.ref 420), some (.int x), some (.int y), some (.int (-9))]) rfl dX12_saying_9 (Nat.le_of_ble_eq_true rfl) rfl ?_
    refine r_iload_n rfl dX12_saying_10 rfl ?_
    refine cl_X12_164 rfl rfl dX12_saying_11 (Nat.le_of_ble_eq_true rfl) (s_X12_isWay hS52) ?_
    rintro _ h60 _ ⟨rfl, e61, rfl⟩
    replace e61 := e61.symm
    subst e61
    have J62 : ∀ v63 : Int64, EV xs L (d + 2) 0 0 M_X12_saying 434 h51 52 [some (.ref 420), some (.int x), some (.int y), some (.int (-9))] (.long v63 :: []) (fun sz' h' r => sz' = 434 ∧ SH h' ∧ KM [420, 431, 432, 433] h h' ∧ (∃ x : Int64, r = [.long x]) ∧ ∃ tr', h' 420 = c420 0 tr' ty nx tk pl va fa (nI c) (nI m) ss wg) := by
      intro v63
      exact r_ret dX12_saying_52 (rt_l rfl) ⟨rfl, hS52, hF53, ⟨_, rfl⟩, ⟨_, f54⟩⟩
    refine r_if_eq (tgt := 51) rfl rfl dX12_saying_14 (fun c64 => ?_) (fun c64 => ?_)
    · refine r_lconst (v := 0) rfl dX12_saying_51 (by decide) ?_
      exact J62 _
    · obtain ⟨j65, q66, q67, e68⟩ := inR_nat (a := 0) (b := 2) (by omega) c64
      subst e68
      refine r_iload_n rfl dX12_saying_17 rfl ?_
      refine r_iconst (v := 0) rfl dX12_saying_18 (by decide) ?_
      refine r_iconst (v := 3) rfl dX12_saying_19 (by decide) ?_
      refine cl_X12_60 rfl rfl dX12_saying_20 (Nat.le_of_ble_eq_true rfl) s_X12_in ?_
      rintro _ h69 _ ⟨rfl, e70, rfl⟩
      replace e70 := e70.symm
      subst e70
      refine r_if_eq (tgt := 51) rfl rfl dX12_saying_23 (fun c71 => ?_) (fun c71 => ?_)
      · refine r_lconst (v := 0) rfl dX12_saying_51 (by decide) ?_
        exact J62 _
      · obtain ⟨j72, q73, q74, e75⟩ := inR_nat (a := 0) (b := 3) (by omega) c71
        subst e75
        refine r_iload_n rfl dX12_saying_26 rfl ?_
        refine r_bipush (v := (-9)) rfl dX12_saying_27 (by decide) ?_
        refine r_icmp_eq (tgt := 51) rfl rfl dX12_saying_29 (fun _ => ?_) (fun zc => absurd zc (by decide))
        refine r_lconst (v := 0) rfl dX12_saying_51 (by decide) ?_
        exact J62 _
  · refine r_istore_n (ls' := [some (.ref 420), some (.int x), some (.int y), some (.int (nI j58))]) rfl dX12_saying_9 (Nat.le_of_ble_eq_true rfl) rfl ?_
    refine r_iload_n rfl dX12_saying_10 rfl ?_
    refine cl_X12_164 rfl rfl dX12_saying_11 (Nat.le_of_ble_eq_true rfl) (s_X12_isWay hS52) ?_
    rintro _ h76 _ ⟨rfl, e77, rfl⟩
    replace e77 := e77.symm
    subst e77
    have J78 : ∀ v79 : Int64, EV xs L (d + 2) 0 0 M_X12_saying 434 h51 52 [some (.ref 420), some (.int x), some (.int y), some (.int (nI j58))] (.long v79 :: []) (fun sz' h' r => sz' = 434 ∧ SH h' ∧ KM [420, 431, 432, 433] h h' ∧ (∃ x : Int64, r = [.long x]) ∧ ∃ tr', h' 420 = c420 0 tr' ty nx tk pl va fa (nI c) (nI m) ss wg) := by
      intro v79
      exact r_ret dX12_saying_52 (rt_l rfl) ⟨rfl, hS52, hF53, ⟨_, rfl⟩, ⟨_, f54⟩⟩
    refine r_if_eq (tgt := 51) rfl rfl dX12_saying_14 (fun c80 => ?_) (fun c80 => ?_)
    · refine r_lconst (v := 0) rfl dX12_saying_51 (by decide) ?_
      exact J78 _
    · obtain ⟨j81, q82, q83, e84⟩ := inR_nat (a := 0) (b := 2) (by omega) c80
      subst e84
      refine r_iload_n rfl dX12_saying_17 rfl ?_
      refine r_iconst (v := 0) rfl dX12_saying_18 (by decide) ?_
      refine r_iconst (v := 3) rfl dX12_saying_19 (by decide) ?_
      refine cl_X12_60 rfl rfl dX12_saying_20 (Nat.le_of_ble_eq_true rfl) s_X12_in ?_
      rintro _ h85 _ ⟨rfl, e86, rfl⟩
      replace e86 := e86.symm
      subst e86
      refine r_if_eq (tgt := 51) rfl rfl dX12_saying_23 (fun c87 => ?_) (fun c87 => ?_)
      · refine r_lconst (v := 0) rfl dX12_saying_51 (by decide) ?_
        exact J78 _
      · obtain ⟨j88, q89, q90, e91⟩ := inR_nat (a := 0) (b := 3) (by omega) c87
        subst e91
        refine r_iload_n rfl dX12_saying_26 rfl ?_
        refine r_bipush (v := (-9)) rfl dX12_saying_27 (by decide) ?_
        refine r_icmp_eq (tgt := 51) rfl rfl dX12_saying_29 (fun c92 => ?_) (fun c92 => ?_)
        · refine r_lconst (v := 0) rfl dX12_saying_51 (by decide) ?_
          exact J78 _
        · refine r_aload_n rfl dX12_saying_32 rfl ?_
          refine r_getv 17 rfl dX12_saying_33 (show 2 ≤ 420 ∧ 420 < 434 by decide) f54 fl_X12_30 rfl ?_
          refine r_sipush (v := 160) rfl dX12_saying_36 (by decide) ?_
          refine r_iload_n rfl dX12_saying_39 rfl ?_
          refine r_imul rfl dX12_saying_40 ?_
          refine r_eqi (y := nI (160 * j81)) (show 160 * (nI j81) = nI (160 * j81) from pk_mul 160 j81) ?_
          refine r_iconst (v := 4) rfl dX12_saying_41 (by decide) ?_
          refine r_iload_n rfl dX12_saying_42 rfl ?_
          refine r_imul rfl dX12_saying_43 ?_
          refine r_eqi (y := nI (4 * j58)) (show 4 * (nI j58) = nI (4 * j58) from pk_mul 4 j58) ?_
          refine r_iadd rfl dX12_saying_44 ?_
          refine r_eqi (y := nI ((160 * j81) + (4 * j58))) (show (nI (160 * j81)) + (nI (4 * j58)) = nI ((160 * j81) + (4 * j58)) from nI_add (160 * j81) (4 * j58)) ?_
          refine r_iload_n rfl dX12_saying_45 rfl ?_
          refine r_iadd rfl dX12_saying_46 ?_
          refine r_eqi (y := nI (((160 * j81) + (4 * j58)) + j88)) (show (nI ((160 * j81) + (4 * j58))) + (nI j88) = nI (((160 * j81) + (4 * j58)) + j88) from nI_add ((160 * j81) + (4 * j58)) j88) ?_
          obtain ⟨g93, f94⟩ := hS52.la LA_426
          refine r_laldv (jn := ((160 * j81) + (4 * j58)) + j88) (v := g93 (((160 * j81) + (4 * j58)) + j88)) rfl dX12_saying_47 (show 2 ≤ 426 ∧ 426 < 434 by decide) f94 (vp_in_nI (n := ((160 * j81) + (4 * j58)) + j88) (by omega) (by omega)) (nI_clamp (n := ((160 * j81) + (4 * j58)) + j88) (by omega)) rfl ?_
          refine r_goto (pc' := 52) rfl dX12_saying_48 ?_
          exact J78 _
set_option maxRecDepth 20000 in
set_option maxHeartbeats 1000000 in
theorem s_X12_between {xs : Nat → Int32} {L d : Nat} {h : ev_H} {th : Int32} {tr : Int64} {ty nx tk pl va fa ss wg : Int32} {c m : Nat} {x : Int32} (hS : SH h) (h5 : h 420 = c420 th tr ty nx tk pl va fa (nI c) (nI m) ss wg) (hc : c ≤ 16) (hm : m ≤ 24) : EV xs L (d + 3) 0 0 M_X12_between 434 h 0 [some (.ref 420), some (.int x)] [] (fun sz' h' r => sz' = 434 ∧ SH h' ∧ KM [420, 431, 432, 433] h h' ∧ (∃ x : Int32, r = [.int x]) ∧ ∃ tr', h' 420 = c420 0 tr' ty nx tk pl va fa (nI c) (nI m) ss wg) := by
  refine r_aload_n rfl dX12_between_0 rfl ?_
  refine r_iconst (v := 0) rfl dX12_between_1 (by decide) ?_
  refine m_put 0 (fs' := [.int 0, .long tr, .ref 421, .int ty, .int nx, .int tk, .int pl, .int va, .int fa, .int (nI c), .int (nI m), .int ss, .int wg, .ref 422, .ref 423, .ref 424, .ref 425, .ref 426, .ref 427, .ref 428, .ref 429, .ref 430, .ref 431, .ref 432, .ref 433]) rfl dX12_between_2 hS (KM_rf (Mod := [420, 431, 432, 433]) h) (by decide) h5 (fp_X12_57 rfl _) (Nat.le_of_ble_eq_true rfl) rfl (fun h51 hS52 hF53 f54 => ?_)
  refine r_iload_n rfl dX12_between_5 rfl ?_
  refine cl_X12_164 rfl rfl dX12_between_6 (Nat.le_of_ble_eq_true rfl) (s_X12_isWay hS52) ?_
  rintro _ h55 _ ⟨rfl, e56, rfl⟩
  replace e56 := e56.symm
  subst e56
  refine r_if_ne (tgt := 16) rfl rfl dX12_between_9 (fun c57 => ?_) (fun c57 => ?_)
  · obtain ⟨j58, q59, q60, e61⟩ := inR_nat (a := 0) (b := 2) (by omega) c57
    subst e61
    refine r_aload_n rfl dX12_between_16 rfl ?_
    refine r_iload_n rfl dX12_between_17 rfl ?_
    refine r_aload_n rfl dX12_between_18 rfl ?_
    refine r_getv 23 rfl dX12_between_19 (show 2 ≤ 420 ∧ 420 < 434 by decide) f54 fl_X12_48 rfl ?_
    refine cl_X12_170 rfl rfl dX12_between_22 (show 2 ≤ 420 ∧ 420 < 434 by decide).1 (show 2 ≤ 420 ∧ 420 < 434 by decide).2 f54 (Nat.le_of_ble_eq_true rfl) (s_X12_takes (q := j58) hS52 f54 hc hm (by omega) LA_432 (by decide)) ?_
    rintro _ h62 _ ⟨rfl, hS63, hK64, x65, z66, rfl⟩
    have hF67 := KM_tr hF53 (KM_sb (by decide) hK64)
    have f68 : h62 420 = c420 0 tr ty nx tk pl va fa (nI c) (nI m) ss wg := (hK64 420 (by decide)).trans f54
    refine r_if_eq (tgt := 39) rfl rfl dX12_between_25 (fun c69 => ?_) (fun c69 => ?_)
    · refine r_bipush (v := (-2)) rfl dX12_between_39 (by decide) ?_
      exact r_ret dX12_between_41 (rt_i rfl) ⟨rfl, hS63, hF67, ⟨_, rfl⟩, ⟨_, f68⟩⟩
    · refine r_aload_n rfl dX12_between_28 rfl ?_
      refine r_aload_n rfl dX12_between_29 rfl ?_
      refine r_getv 23 rfl dX12_between_30 (show 2 ≤ 420 ∧ 420 < 434 by decide) f68 fl_X12_48 rfl ?_
      refine cl_X12_174 rfl rfl dX12_between_33 (show 2 ≤ 420 ∧ 420 < 434 by decide).1 (show 2 ≤ 420 ∧ 420 < 434 by decide).2 f68 (Nat.le_of_ble_eq_true rfl) (s_X12_checks hS63 f68 hc hm LA_432) ?_
      rintro _ h70 _ ⟨rfl, e71, x72, rfl⟩
      replace e71 := e71.symm
      subst e71
      refine r_goto (pc' := 41) rfl dX12_between_36 ?_
      exact r_ret dX12_between_41 (rt_i rfl) ⟨rfl, hS63, hF67, ⟨_, rfl⟩, ⟨_, f68⟩⟩
  · refine r_iconst (v := (-1)) rfl dX12_between_12 (by decide) ?_
    refine r_goto (pc' := 41) rfl dX12_between_13 ?_
    exact r_ret dX12_between_41 (rt_i rfl) ⟨rfl, hS52, hF53, ⟨_, rfl⟩, ⟨_, f54⟩⟩
set_option maxRecDepth 20000 in
set_option maxHeartbeats 1000000 in
theorem s_X12_looks {xs : Nat → Int32} {L d : Nat} {h : ev_H} {th : Int32} {tr : Int64} {ty nx tk pl va fa ss wg : Int32} {c m : Nat} {x : Int32} (hS : SH h) (h5 : h 420 = c420 th tr ty nx tk pl va fa (nI c) (nI m) ss wg) (hc : c ≤ 16) (hm : m ≤ 24) : EV xs L (d + 2) 0 0 M_X12_looks 434 h 0 [some (.ref 420), some (.int x)] [] (fun sz' h' r => sz' = 434 ∧ SH h' ∧ KM [420, 431, 432, 433] h h' ∧ (∃ x : Int32, r = [.int x]) ∧ ∃ tr', h' 420 = c420 0 tr' ty nx tk pl va fa (nI c) (nI m) ss wg) := by
  refine r_aload_n rfl dX12_looks_0 rfl ?_
  refine r_iconst (v := 0) rfl dX12_looks_1 (by decide) ?_
  refine m_put 0 (fs' := [.int 0, .long tr, .ref 421, .int ty, .int nx, .int tk, .int pl, .int va, .int fa, .int (nI c), .int (nI m), .int ss, .int wg, .ref 422, .ref 423, .ref 424, .ref 425, .ref 426, .ref 427, .ref 428, .ref 429, .ref 430, .ref 431, .ref 432, .ref 433]) rfl dX12_looks_2 hS (KM_rf (Mod := [420, 431, 432, 433]) h) (by decide) h5 (fp_X12_57 rfl _) (Nat.le_of_ble_eq_true rfl) rfl (fun h51 hS52 hF53 f54 => ?_)
  refine r_iload_n rfl dX12_looks_5 rfl ?_
  refine r_iconst (v := 0) rfl dX12_looks_6 (by decide) ?_
  refine r_iconst (v := 5) rfl dX12_looks_7 (by decide) ?_
  refine cl_X12_60 rfl rfl dX12_looks_8 (Nat.le_of_ble_eq_true rfl) s_X12_in ?_
  rintro _ h55 _ ⟨rfl, e56, rfl⟩
  replace e56 := e56.symm
  subst e56
  refine r_if_ne (tgt := 18) rfl rfl dX12_looks_11 (fun c57 => ?_) (fun c57 => ?_)
  · obtain ⟨j58, q59, q60, e61⟩ := inR_nat (a := 0) (b := 5) (by omega) c57
    subst e61
    refine r_aload_n rfl dX12_looks_18 rfl ?_
    refine r_iload_n rfl dX12_looks_19 rfl ?_
    refine r_aload_n rfl dX12_looks_20 rfl ?_
    refine r_getv 23 rfl dX12_looks_21 (show 2 ≤ 420 ∧ 420 < 434 by decide) f54 fl_X12_48 rfl ?_
    refine cl_X12_170 rfl rfl dX12_looks_24 (show 2 ≤ 420 ∧ 420 < 434 by decide).1 (show 2 ≤ 420 ∧ 420 < 434 by decide).2 f54 (Nat.le_of_ble_eq_true rfl) (s_X12_takes (q := j58) hS52 f54 hc hm (by omega) LA_432 (by decide)) ?_
    rintro _ h62 _ ⟨rfl, hS63, hK64, x65, z66, rfl⟩
    have hF67 := KM_tr hF53 (KM_sb (by decide) hK64)
    have f68 : h62 420 = c420 0 tr ty nx tk pl va fa (nI c) (nI m) ss wg := (hK64 420 (by decide)).trans f54
    refine r_if_eq (tgt := 40) rfl rfl dX12_looks_27 (fun c69 => ?_) (fun c69 => ?_)
    · refine r_bipush (v := (-2)) rfl dX12_looks_40 (by decide) ?_
      exact r_ret dX12_looks_42 (rt_i rfl) ⟨rfl, hS63, hF67, ⟨_, rfl⟩, ⟨_, f68⟩⟩
    · refine r_aload_n rfl dX12_looks_30 rfl ?_
      refine r_getv 23 rfl dX12_looks_31 (show 2 ≤ 420 ∧ 420 < 434 by decide) f68 fl_X12_48 rfl ?_
      refine cl_X12_167 rfl rfl dX12_looks_34 (Nat.le_of_ble_eq_true rfl) (s_X12_looksOf hS63 LA_432) ?_
      rintro _ h70 _ ⟨rfl, e71, x72, rfl⟩
      replace e71 := e71.symm
      subst e71
      refine r_goto (pc' := 42) rfl dX12_looks_37 ?_
      exact r_ret dX12_looks_42 (rt_i rfl) ⟨rfl, hS63, hF67, ⟨_, rfl⟩, ⟨_, f68⟩⟩
  · refine r_iconst (v := (-1)) rfl dX12_looks_14 (by decide) ?_
    refine r_goto (pc' := 42) rfl dX12_looks_15 ?_
    exact r_ret dX12_looks_42 (rt_i rfl) ⟨rfl, hS52, hF53, ⟨_, rfl⟩, ⟨_, f54⟩⟩
set_option maxRecDepth 20000 in
set_option maxHeartbeats 1000000 in
theorem lp_X12_compare_60 {xs : Nat → Int32} {L d : Nat} {Q : ev_Q} {th : Int32} {tr : Int64} {ty nx tk pl va fa ss wg : Int32} {c m : Nat} {j58 : Nat} {j65 : Nat} {h0 : ev_H} (h5 : h0 420 = c420 th tr ty nx tk pl va fa (nI c) (nI m) ss wg) (hc : c ≤ 16) (hm : m ≤ 24) (hb_j58 : j58 < 5 + 1) (hb_j65 : j65 < 5 + 1) : ∀ (n k : Nat), k + n = 4 → ∀ (h : ev_H) (hS : SH h) (hF : KM [431, 432, 433] h0 h) (y3 : Int32) (y4 : Int32) (hK : ∀ (h : ev_H) (hS : SH h) (hF : KM [431, 432, 433] h0 h) (kx : Int32) (y3 : Int32) (y4 : Int32), EV xs L (d + 2) 0 0 M_X12_compare 434 h 142 [some (.ref 420), some (.int (nI j58)), some (.int (nI j65)), some (.int y3), some (.int y4), some (.int kx)] [] Q), EV xs L (d + 2) 0 0 M_X12_compare 434 h 60 [some (.ref 420), some (.int (nI j58)), some (.int (nI j65)), some (.int y3), some (.int y4), some (.int (nI k))] [] Q := by
  intro n
  induction n with
  | zero =>
    intro k hk h hS hF y3 y4 hK
    refine r_iload rfl dX12_compare_60 rfl ?_
    refine r_iconst (v := 4) rfl dX12_compare_62 (by decide) ?_
    refine r_icmp_ge (tgt := 142) rfl rfl dX12_compare_63 (fun _ => ?_) (fun zc => absurd (show 4 ≤ nI k from nI_le (a := 4) (b := k) (by omega) (by omega)) zc)
    exact hK h hS hF (nI k) y3 y4
  | succ n ih =>
    intro k hk h hS hF y3 y4 hK
    refine r_iload rfl dX12_compare_60 rfl ?_
    refine r_iconst (v := 4) rfl dX12_compare_62 (by decide) ?_
    refine r_icmp_ge (tgt := 142) rfl rfl dX12_compare_63 (fun zc => absurd zc (show ¬ 4 ≤ nI k from nI_ge (a := k) (b := 4) (by omega) (by omega))) (fun _ => ?_)
    refine r_iload_n rfl dX12_compare_66 rfl ?_
    have J185 : ∀ v186 : Int32, EV xs L (d + 2) 0 0 M_X12_compare 434 h 99 [some (.ref 420), some (.int (nI j58)), some (.int (nI j65)), some (.int y3), some (.int y4), some (.int (nI k))] (.int v186 :: []) Q := by
      intro v186
      refine r_istore_n (ls' := [some (.ref 420), some (.int (nI j58)), some (.int (nI j65)), some (.int v186), some (.int y4), some (.int (nI k))]) rfl dX12_compare_99 (Nat.le_of_ble_eq_true rfl) rfl ?_
      refine r_iload rfl dX12_compare_100 rfl ?_
      have J187 : ∀ v188 : Int32, EV xs L (d + 2) 0 0 M_X12_compare 434 h 134 [some (.ref 420), some (.int (nI j58)), some (.int (nI j65)), some (.int v186), some (.int y4), some (.int (nI k))] (.int v188 :: []) Q := by
        intro v188
        refine r_istore (ls' := [some (.ref 420), some (.int (nI j58)), some (.int (nI j65)), some (.int v186), some (.int v188), some (.int (nI k))]) rfl dX12_compare_134 (Nat.le_of_ble_eq_true rfl) rfl ?_
        refine r_iinc (y := nI (k + 1)) (ls' := [some (.ref 420), some (.int (nI j58)), some (.int (nI j65)), some (.int v186), some (.int v188), some (.int (nI (k + 1)))]) rfl dX12_compare_136 rfl (nI_1 k) (Nat.le_of_ble_eq_true rfl) rfl ?_
        refine r_goto (pc' := 60) rfl dX12_compare_139 ?_
        exact ih (k + 1) (by omega) h hS hF v186 v188 hK
      refine r_if_eq (tgt := 133) rfl rfl dX12_compare_102 (fun c189 => ?_) (fun c189 => ?_)
      · refine r_iconst (v := 0) rfl dX12_compare_133 (by decide) ?_
        exact J187 _
      · refine r_aload_n rfl dX12_compare_105 rfl ?_
        refine r_getv 24 rfl dX12_compare_106 (show 2 ≤ 420 ∧ 420 < 434 by decide) ((hF 420 (by decide)).trans h5) fl_X12_51 rfl ?_
        refine r_iload rfl dX12_compare_109 rfl ?_
        obtain ⟨g190, f191⟩ := hS.la LA_433
        refine r_laldv (jn := k) (v := g190 k) rfl dX12_compare_111 (show 2 ≤ 433 ∧ 433 < 434 by decide) f191 (vp_in_nI (n := k) (by omega) (by omega)) (nI_clamp (n := k) (by omega)) rfl ?_
        refine r_aload_n rfl dX12_compare_112 rfl ?_
        refine r_getv 23 rfl dX12_compare_113 (show 2 ≤ 420 ∧ 420 < 434 by decide) ((hF 420 (by decide)).trans h5) fl_X12_48 rfl ?_
        refine r_iload rfl dX12_compare_116 rfl ?_
        obtain ⟨g192, f193⟩ := hS.la LA_432
        refine r_laldv (jn := k) (v := g192 k) rfl dX12_compare_118 (show 2 ≤ 432 ∧ 432 < 434 by decide) f193 (vp_in_nI (n := k) (by omega) (by omega)) (nI_clamp (n := k) (by omega)) rfl ?_
        refine r_ldc2 (v := (-1)) rfl dX12_compare_119 lc_X12_137 ?_
        refine r_lxor rfl dX12_compare_122 ?_
        refine r_land rfl dX12_compare_123 ?_
        refine r_lconst (v := 0) rfl dX12_compare_124 (by decide) ?_
        refine r_lcmp rfl dX12_compare_125 ?_
        refine r_if_ne (tgt := 133) rfl rfl dX12_compare_126 (fun c194 => ?_) (fun c194 => ?_)
        · refine r_iconst (v := 0) rfl dX12_compare_133 (by decide) ?_
          exact J187 _
        · refine r_iconst (v := 1) rfl dX12_compare_129 (by decide) ?_
          refine r_goto (pc' := 134) rfl dX12_compare_130 ?_
          exact J187 _
    refine r_if_eq (tgt := 98) rfl rfl dX12_compare_67 (fun c195 => ?_) (fun c195 => ?_)
    · refine r_iconst (v := 0) rfl dX12_compare_98 (by decide) ?_
      exact J185 _
    · refine r_aload_n rfl dX12_compare_70 rfl ?_
      refine r_getv 23 rfl dX12_compare_71 (show 2 ≤ 420 ∧ 420 < 434 by decide) ((hF 420 (by decide)).trans h5) fl_X12_48 rfl ?_
      refine r_iload rfl dX12_compare_74 rfl ?_
      obtain ⟨g196, f197⟩ := hS.la LA_432
      refine r_laldv (jn := k) (v := g196 k) rfl dX12_compare_76 (show 2 ≤ 432 ∧ 432 < 434 by decide) f197 (vp_in_nI (n := k) (by omega) (by omega)) (nI_clamp (n := k) (by omega)) rfl ?_
      refine r_aload_n rfl dX12_compare_77 rfl ?_
      refine r_getv 24 rfl dX12_compare_78 (show 2 ≤ 420 ∧ 420 < 434 by decide) ((hF 420 (by decide)).trans h5) fl_X12_51 rfl ?_
      refine r_iload rfl dX12_compare_81 rfl ?_
      obtain ⟨g198, f199⟩ := hS.la LA_433
      refine r_laldv (jn := k) (v := g198 k) rfl dX12_compare_83 (show 2 ≤ 433 ∧ 433 < 434 by decide) f199 (vp_in_nI (n := k) (by omega) (by omega)) (nI_clamp (n := k) (by omega)) rfl ?_
      refine r_ldc2 (v := (-1)) rfl dX12_compare_84 lc_X12_137 ?_
      refine r_lxor rfl dX12_compare_87 ?_
      refine r_land rfl dX12_compare_88 ?_
      refine r_lconst (v := 0) rfl dX12_compare_89 (by decide) ?_
      refine r_lcmp rfl dX12_compare_90 ?_
      refine r_if_ne (tgt := 98) rfl rfl dX12_compare_91 (fun c200 => ?_) (fun c200 => ?_)
      · refine r_iconst (v := 0) rfl dX12_compare_98 (by decide) ?_
        exact J185 _
      · refine r_iconst (v := 1) rfl dX12_compare_94 (by decide) ?_
        refine r_goto (pc' := 99) rfl dX12_compare_95 ?_
        exact J185 _
set_option maxRecDepth 20000 in
set_option maxHeartbeats 1000000 in
theorem s_X12_compare {xs : Nat → Int32} {L d : Nat} {h : ev_H} {th : Int32} {tr : Int64} {ty nx tk pl va fa ss wg : Int32} {c m : Nat} {x y : Int32} (hS : SH h) (h5 : h 420 = c420 th tr ty nx tk pl va fa (nI c) (nI m) ss wg) (hc : c ≤ 16) (hm : m ≤ 24) : EV xs L (d + 2) 0 0 M_X12_compare 434 h 0 [some (.ref 420), some (.int x), some (.int y), none, none, none] [] (fun sz' h' r => sz' = 434 ∧ SH h' ∧ KM [420, 431, 432, 433] h h' ∧ (∃ x : Int32, r = [.int x]) ∧ ∃ tr', h' 420 = c420 0 tr' ty nx tk pl va fa (nI c) (nI m) ss wg) := by
  refine r_aload_n rfl dX12_compare_0 rfl ?_
  refine r_iconst (v := 0) rfl dX12_compare_1 (by decide) ?_
  refine m_put 0 (fs' := [.int 0, .long tr, .ref 421, .int ty, .int nx, .int tk, .int pl, .int va, .int fa, .int (nI c), .int (nI m), .int ss, .int wg, .ref 422, .ref 423, .ref 424, .ref 425, .ref 426, .ref 427, .ref 428, .ref 429, .ref 430, .ref 431, .ref 432, .ref 433]) rfl dX12_compare_2 hS (KM_rf (Mod := [420, 431, 432, 433]) h) (by decide) h5 (fp_X12_57 rfl _) (Nat.le_of_ble_eq_true rfl) rfl (fun h51 hS52 hF53 f54 => ?_)
  refine r_iload_n rfl dX12_compare_5 rfl ?_
  refine r_iconst (v := 0) rfl dX12_compare_6 (by decide) ?_
  refine r_iconst (v := 5) rfl dX12_compare_7 (by decide) ?_
  refine cl_X12_60 rfl rfl dX12_compare_8 (Nat.le_of_ble_eq_true rfl) s_X12_in ?_
  rintro _ h55 _ ⟨rfl, e56, rfl⟩
  replace e56 := e56.symm
  subst e56
  refine r_if_eq (tgt := 23) rfl rfl dX12_compare_11 (fun c57 => ?_) (fun c57 => ?_)
  · refine r_iconst (v := (-1)) rfl dX12_compare_23 (by decide) ?_
    exact r_ret dX12_compare_24 (rt_i rfl) ⟨rfl, hS52, hF53, ⟨_, rfl⟩, ⟨_, f54⟩⟩
  · obtain ⟨j58, q59, q60, e61⟩ := inR_nat (a := 0) (b := 5) (by omega) c57
    subst e61
    refine r_iload_n rfl dX12_compare_14 rfl ?_
    refine r_iconst (v := 0) rfl dX12_compare_15 (by decide) ?_
    refine r_iconst (v := 5) rfl dX12_compare_16 (by decide) ?_
    refine cl_X12_60 rfl rfl dX12_compare_17 (Nat.le_of_ble_eq_true rfl) s_X12_in ?_
    rintro _ h62 _ ⟨rfl, e63, rfl⟩
    replace e63 := e63.symm
    subst e63
    refine r_if_ne (tgt := 25) rfl rfl dX12_compare_20 (fun c64 => ?_) (fun c64 => ?_)
    · obtain ⟨j65, q66, q67, e68⟩ := inR_nat (a := 0) (b := 5) (by omega) c64
      subst e68
      refine r_aload_n rfl dX12_compare_25 rfl ?_
      refine r_iload_n rfl dX12_compare_26 rfl ?_
      refine r_aload_n rfl dX12_compare_27 rfl ?_
      refine r_getv 23 rfl dX12_compare_28 (show 2 ≤ 420 ∧ 420 < 434 by decide) f54 fl_X12_48 rfl ?_
      refine cl_X12_170 rfl rfl dX12_compare_31 (show 2 ≤ 420 ∧ 420 < 434 by decide).1 (show 2 ≤ 420 ∧ 420 < 434 by decide).2 f54 (Nat.le_of_ble_eq_true rfl) (s_X12_takes (q := j58) hS52 f54 hc hm (by omega) LA_432 (by decide)) ?_
      rintro _ h69 _ ⟨rfl, hS70, hK71, x72, z73, rfl⟩
      have hF74 := KM_tr hF53 (KM_sb (by decide) hK71)
      have f75 : h69 420 = c420 0 tr ty nx tk pl va fa (nI c) (nI m) ss wg := (hK71 420 (by decide)).trans f54
      refine r_if_eq (tgt := 49) rfl rfl dX12_compare_34 (fun c76 => ?_) (fun c76 => ?_)
      · refine r_bipush (v := (-2)) rfl dX12_compare_49 (by decide) ?_
        exact r_ret dX12_compare_51 (rt_i rfl) ⟨rfl, hS70, hF74, ⟨_, rfl⟩, ⟨_, f75⟩⟩
      · refine r_aload_n rfl dX12_compare_37 rfl ?_
        refine r_iload_n rfl dX12_compare_38 rfl ?_
        refine r_aload_n rfl dX12_compare_39 rfl ?_
        refine r_getv 24 rfl dX12_compare_40 (show 2 ≤ 420 ∧ 420 < 434 by decide) f75 fl_X12_51 rfl ?_
        refine cl_X12_170 rfl rfl dX12_compare_43 (show 2 ≤ 420 ∧ 420 < 434 by decide).1 (show 2 ≤ 420 ∧ 420 < 434 by decide).2 f75 (Nat.le_of_ble_eq_true rfl) (s_X12_takes (q := j65) hS70 f75 hc hm (by omega) LA_433 (by decide)) ?_
        rintro _ h77 _ ⟨rfl, hS78, hK79, x80, z81, rfl⟩
        have hF82 := KM_tr hF74 (KM_sb (by decide) hK79)
        have f83 : h77 420 = c420 0 tr ty nx tk pl va fa (nI c) (nI m) ss wg := (hK79 420 (by decide)).trans f75
        refine r_if_ne (tgt := 52) rfl rfl dX12_compare_46 (fun c84 => ?_) (fun c84 => ?_)
        · refine r_iconst (v := 1) rfl dX12_compare_52 (by decide) ?_
          refine r_istore_n (ls' := [some (.ref 420), some (.int (nI j58)), some (.int (nI j65)), some (.int 1), none, none]) rfl dX12_compare_53 (Nat.le_of_ble_eq_true rfl) rfl ?_
          refine r_iconst (v := 1) rfl dX12_compare_54 (by decide) ?_
          refine r_istore (ls' := [some (.ref 420), some (.int (nI j58)), some (.int (nI j65)), some (.int 1), some (.int 1), none]) rfl dX12_compare_55 (Nat.le_of_ble_eq_true rfl) rfl ?_
          refine r_iconst (v := 0) rfl dX12_compare_57 (by decide) ?_
          refine r_istore (ls' := [some (.ref 420), some (.int (nI j58)), some (.int (nI j65)), some (.int 1), some (.int 1), some (.int 0)]) rfl dX12_compare_58 (Nat.le_of_ble_eq_true rfl) rfl ?_
          refine lp_X12_compare_60 f83 hc hm (by omega) (by omega) (4 - 0) 0 (by omega) h77 hS78 (KM_rf _) 1 1 ?_
          intro h88 hS89 hK90 kx85 w86 w87
          have hF91 := KM_tr hF82 (KM_sb (by decide) hK90)
          have f92 : h88 420 = c420 0 tr ty nx tk pl va fa (nI c) (nI m) ss wg := (hK90 420 (by decide)).trans f83
          refine r_iload_n rfl dX12_compare_142 rfl ?_
          refine r_if_eq (tgt := 155) rfl rfl dX12_compare_143 (fun c93 => ?_) (fun c93 => ?_)
          · refine r_iload_n rfl dX12_compare_155 rfl ?_
            refine r_if_eq (tgt := 163) rfl rfl dX12_compare_156 (fun c94 => ?_) (fun c94 => ?_)
            · refine r_iload rfl dX12_compare_163 rfl ?_
              refine r_if_eq (tgt := 172) rfl rfl dX12_compare_165 (fun c95 => ?_) (fun c95 => ?_)
              · refine r_iconst (v := 3) rfl dX12_compare_172 (by decide) ?_
                exact r_ret dX12_compare_173 (rt_i rfl) ⟨rfl, hS89, hF91, ⟨_, rfl⟩, ⟨_, f92⟩⟩
              · refine r_iconst (v := 2) rfl dX12_compare_168 (by decide) ?_
                refine r_goto (pc' := 173) rfl dX12_compare_169 ?_
                exact r_ret dX12_compare_173 (rt_i rfl) ⟨rfl, hS89, hF91, ⟨_, rfl⟩, ⟨_, f92⟩⟩
            · refine r_iconst (v := 1) rfl dX12_compare_159 (by decide) ?_
              refine r_goto (pc' := 173) rfl dX12_compare_160 ?_
              exact r_ret dX12_compare_173 (rt_i rfl) ⟨rfl, hS89, hF91, ⟨_, rfl⟩, ⟨_, f92⟩⟩
          · refine r_iload rfl dX12_compare_146 rfl ?_
            refine r_if_eq (tgt := 155) rfl rfl dX12_compare_148 (fun c96 => ?_) (fun c96 => ?_)
            · refine r_iload_n rfl dX12_compare_155 rfl ?_
              refine r_if_eq (tgt := 163) rfl rfl dX12_compare_156 (fun c97 => ?_) (fun c97 => ?_)
              · refine r_iload rfl dX12_compare_163 rfl ?_
                refine r_if_eq (tgt := 172) rfl rfl dX12_compare_165 (fun c98 => ?_) (fun c98 => ?_)
                · refine r_iconst (v := 3) rfl dX12_compare_172 (by decide) ?_
                  exact r_ret dX12_compare_173 (rt_i rfl) ⟨rfl, hS89, hF91, ⟨_, rfl⟩, ⟨_, f92⟩⟩
                · refine r_iconst (v := 2) rfl dX12_compare_168 (by decide) ?_
                  refine r_goto (pc' := 173) rfl dX12_compare_169 ?_
                  exact r_ret dX12_compare_173 (rt_i rfl) ⟨rfl, hS89, hF91, ⟨_, rfl⟩, ⟨_, f92⟩⟩
              · refine r_iconst (v := 1) rfl dX12_compare_159 (by decide) ?_
                refine r_goto (pc' := 173) rfl dX12_compare_160 ?_
                exact r_ret dX12_compare_173 (rt_i rfl) ⟨rfl, hS89, hF91, ⟨_, rfl⟩, ⟨_, f92⟩⟩
            · refine r_iconst (v := 0) rfl dX12_compare_151 (by decide) ?_
              refine r_goto (pc' := 173) rfl dX12_compare_152 ?_
              exact r_ret dX12_compare_173 (rt_i rfl) ⟨rfl, hS89, hF91, ⟨_, rfl⟩, ⟨_, f92⟩⟩
        · refine r_bipush (v := (-2)) rfl dX12_compare_49 (by decide) ?_
          exact r_ret dX12_compare_51 (rt_i rfl) ⟨rfl, hS78, hF82, ⟨_, rfl⟩, ⟨_, f83⟩⟩
    · refine r_iconst (v := (-1)) rfl dX12_compare_23 (by decide) ?_
      exact r_ret dX12_compare_24 (rt_i rfl) ⟨rfl, hS52, hF53, ⟨_, rfl⟩, ⟨_, f54⟩⟩
set_option maxRecDepth 20000 in
set_option maxHeartbeats 1000000 in
theorem lp_X12_bounds__7 {xs : Nat → Int32} {L d : Nat} {Q : ev_Q} {th : Int32} {tr : Int64} {ty nx tk pl va fa ss wg : Int32} {c m : Nat} {x : Int32} {h0 : ev_H} (h5 : h0 420 = c420 th tr ty nx tk pl va fa (nI c) (nI m) ss wg) (hc : c ≤ 16) (hm : m ≤ 24) : ∀ (n k : Nat), k + n = 4 → ∀ (h : ev_H) (hS : SH h) (hF : KM [431, 432, 433] h0 h)  (hK : ∀ (h : ev_H) (hS : SH h) (hF : KM [431, 432, 433] h0 h) (kx : Int32) , EV xs L (d + 2) 0 0 M_X12_bounds_ 434 h 41 [some (.ref 420), some (.int x), some (.int kx)] [] Q), EV xs L (d + 2) 0 0 M_X12_bounds_ 434 h 7 [some (.ref 420), some (.int x), some (.int (nI k))] [] Q := by
  intro n
  induction n with
  | zero =>
    intro k hk h hS hF  hK
    refine r_iload_n rfl dX12_bounds__7 rfl ?_
    refine r_iconst (v := 4) rfl dX12_bounds__8 (by decide) ?_
    refine r_icmp_ge (tgt := 41) rfl rfl dX12_bounds__9 (fun _ => ?_) (fun zc => absurd (show 4 ≤ nI k from nI_le (a := 4) (b := k) (by omega) (by omega)) zc)
    exact hK h hS hF (nI k) 
  | succ n ih =>
    intro k hk h hS hF  hK
    refine r_iload_n rfl dX12_bounds__7 rfl ?_
    refine r_iconst (v := 4) rfl dX12_bounds__8 (by decide) ?_
    refine r_icmp_ge (tgt := 41) rfl rfl dX12_bounds__9 (fun zc => absurd zc (show ¬ 4 ≤ nI k from nI_ge (a := k) (b := 4) (by omega) (by omega))) (fun _ => ?_)
    refine r_aload_n rfl dX12_bounds__12 rfl ?_
    refine r_getv 23 rfl dX12_bounds__13 (show 2 ≤ 420 ∧ 420 < 434 by decide) ((hF 420 (by decide)).trans h5) fl_X12_48 rfl ?_
    refine r_iload_n rfl dX12_bounds__16 rfl ?_
    refine r_aload_n rfl dX12_bounds__17 rfl ?_
    refine r_getv 21 rfl dX12_bounds__18 (show 2 ≤ 420 ∧ 420 < 434 by decide) ((hF 420 (by decide)).trans h5) fl_X12_42 rfl ?_
    refine r_iload_n rfl dX12_bounds__21 rfl ?_
    obtain ⟨g155, f156⟩ := hS.la LA_430
    refine r_laldv (jn := k) (v := g155 k) rfl dX12_bounds__22 (show 2 ≤ 430 ∧ 430 < 434 by decide) f156 (vp_in_nI (n := k) (by omega) (by omega)) (nI_clamp (n := k) (by omega)) rfl ?_
    refine r_aload_n rfl dX12_bounds__23 rfl ?_
    refine r_getv 20 rfl dX12_bounds__24 (show 2 ≤ 420 ∧ 420 < 434 by decide) ((hF 420 (by decide)).trans h5) fl_X12_39 rfl ?_
    refine r_iload_n rfl dX12_bounds__27 rfl ?_
    obtain ⟨g157, f158⟩ := hS.la LA_429
    refine r_laldv (jn := k) (v := g157 k) rfl dX12_bounds__28 (show 2 ≤ 429 ∧ 429 < 434 by decide) f158 (vp_in_nI (n := k) (by omega) (by omega)) (nI_clamp (n := k) (by omega)) rfl ?_
    refine r_ldc2 (v := (-1)) rfl dX12_bounds__29 lc_X12_137 ?_
    refine r_lxor rfl dX12_bounds__32 ?_
    refine r_land rfl dX12_bounds__33 ?_
    obtain ⟨g159, f160⟩ := hS.la LA_432
    refine m_last rfl dX12_bounds__34 (show 2 ≤ 432 ∧ 432 < 434 by decide) hS hF (by decide) f160 (vp_in_nI (n := k) (by omega) (by omega)) (fun h161 hS162 hF163 hN164 => ?_)
    refine r_iinc (y := nI (k + 1)) (ls' := [some (.ref 420), some (.int x), some (.int (nI (k + 1)))]) rfl dX12_bounds__35 rfl (nI_1 k) (Nat.le_of_ble_eq_true rfl) rfl ?_
    refine r_goto (pc' := 7) rfl dX12_bounds__38 ?_
    exact ih (k + 1) (by omega) h161 hS162 hF163  hK
set_option maxRecDepth 20000 in
set_option maxHeartbeats 1000000 in
theorem s_X12_bounds_ {xs : Nat → Int32} {L d : Nat} {h : ev_H} {th : Int32} {tr : Int64} {ty nx tk pl va fa ss wg : Int32} {c m : Nat} {x : Int32} (hS : SH h) (h5 : h 420 = c420 th tr ty nx tk pl va fa (nI c) (nI m) ss wg) (hc : c ≤ 16) (hm : m ≤ 24) : EV xs L (d + 2) 0 0 M_X12_bounds_ 434 h 0 [some (.ref 420), some (.int x), none] [] (fun sz' h' r => sz' = 434 ∧ SH h' ∧ KM [420, 431, 432, 433] h h' ∧ (∃ x : Int32, r = [.int x]) ∧ ∃ tr', h' 420 = c420 0 tr' ty nx tk pl va fa (nI c) (nI m) ss wg) := by
  refine r_aload_n rfl dX12_bounds__0 rfl ?_
  refine r_iconst (v := 0) rfl dX12_bounds__1 (by decide) ?_
  refine m_put 0 (fs' := [.int 0, .long tr, .ref 421, .int ty, .int nx, .int tk, .int pl, .int va, .int fa, .int (nI c), .int (nI m), .int ss, .int wg, .ref 422, .ref 423, .ref 424, .ref 425, .ref 426, .ref 427, .ref 428, .ref 429, .ref 430, .ref 431, .ref 432, .ref 433]) rfl dX12_bounds__2 hS (KM_rf (Mod := [420, 431, 432, 433]) h) (by decide) h5 (fp_X12_57 rfl _) (Nat.le_of_ble_eq_true rfl) rfl (fun h51 hS52 hF53 f54 => ?_)
  refine r_iconst (v := 0) rfl dX12_bounds__5 (by decide) ?_
  refine r_istore_n (ls' := [some (.ref 420), some (.int x), some (.int 0)]) rfl dX12_bounds__6 (Nat.le_of_ble_eq_true rfl) rfl ?_
  refine lp_X12_bounds__7 f54 hc hm (4 - 0) 0 (by omega) h51 hS52 (KM_rf _)  ?_
  intro h56 hS57 hK58 kx55 
  have hF59 := KM_tr hF53 (KM_sb (by decide) hK58)
  have f60 : h56 420 = c420 0 tr ty nx tk pl va fa (nI c) (nI m) ss wg := (hK58 420 (by decide)).trans f54
  refine r_iload_n rfl dX12_bounds__41 rfl ?_
  refine r_if_ne (tgt := 55) rfl rfl dX12_bounds__42 (fun c61 => ?_) (fun c61 => ?_)
  · refine r_iload_n rfl dX12_bounds__55 rfl ?_
    refine r_iconst (v := 1) rfl dX12_bounds__56 (by decide) ?_
    refine r_icmp_ne (tgt := 70) rfl rfl dX12_bounds__57 (fun c62 => ?_) (fun c62 => ?_)
    · refine r_iload_n rfl dX12_bounds__70 rfl ?_
      refine r_iconst (v := 2) rfl dX12_bounds__71 (by decide) ?_
      refine r_icmp_ne (tgt := 96) rfl rfl dX12_bounds__72 (fun c63 => ?_) (fun c63 => ?_)
      · refine r_iconst (v := (-1)) rfl dX12_bounds__96 (by decide) ?_
        exact r_ret dX12_bounds__97 (rt_i rfl) ⟨rfl, hS57, hF59, ⟨_, rfl⟩, ⟨_, f60⟩⟩
      · refine r_aload_n rfl dX12_bounds__75 rfl ?_
        refine r_getv 23 rfl dX12_bounds__76 (show 2 ≤ 420 ∧ 420 < 434 by decide) f60 fl_X12_48 rfl ?_
        refine cl_X12_160 rfl rfl dX12_bounds__79 (Nat.le_of_ble_eq_true rfl) (s_X12_many hS57 LA_432) ?_
        rintro _ h64 _ ⟨rfl, e65, x66, rfl⟩
        replace e65 := e65.symm
        subst e65
        refine r_bipush (v := 8) rfl dX12_bounds__82 (by decide) ?_
        refine r_aload_n rfl dX12_bounds__84 rfl ?_
        refine cl_X12_133 rfl rfl dX12_bounds__85 (show 2 ≤ 420 ∧ 420 < 434 by decide).1 (show 2 ≤ 420 ∧ 420 < 434 by decide).2 f60 (Nat.le_of_ble_eq_true rfl) (s_X12_shared hS57 f60 hc hm) ?_
        rintro _ h67 _ ⟨rfl, e68, x69, rfl⟩
        replace e68 := e68.symm
        subst e68
        refine cl_X12_177 rfl rfl dX12_bounds__88 (Nat.le_of_ble_eq_true rfl) (s_X12_ones hS57) ?_
        rintro _ h70 _ ⟨rfl, e71, x72, rfl⟩
        replace e71 := e71.symm
        subst e71
        refine r_isub rfl dX12_bounds__91 ?_
        refine r_ishr rfl dX12_bounds__92 ?_
        refine r_goto (pc' := 97) rfl dX12_bounds__93 ?_
        exact r_ret dX12_bounds__97 (rt_i rfl) ⟨rfl, hS57, hF59, ⟨_, rfl⟩, ⟨_, f60⟩⟩
    · refine r_aload_n rfl dX12_bounds__60 rfl ?_
      refine r_getv 21 rfl dX12_bounds__61 (show 2 ≤ 420 ∧ 420 < 434 by decide) f60 fl_X12_42 rfl ?_
      refine cl_X12_160 rfl rfl dX12_bounds__64 (Nat.le_of_ble_eq_true rfl) (s_X12_many hS57 LA_430) ?_
      rintro _ h73 _ ⟨rfl, e74, x75, rfl⟩
      replace e74 := e74.symm
      subst e74
      refine r_goto (pc' := 97) rfl dX12_bounds__67 ?_
      exact r_ret dX12_bounds__97 (rt_i rfl) ⟨rfl, hS57, hF59, ⟨_, rfl⟩, ⟨_, f60⟩⟩
  · refine r_aload_n rfl dX12_bounds__45 rfl ?_
    refine r_getv 20 rfl dX12_bounds__46 (show 2 ≤ 420 ∧ 420 < 434 by decide) f60 fl_X12_39 rfl ?_
    refine cl_X12_160 rfl rfl dX12_bounds__49 (Nat.le_of_ble_eq_true rfl) (s_X12_many hS57 LA_429) ?_
    rintro _ h76 _ ⟨rfl, e77, x78, rfl⟩
    replace e77 := e77.symm
    subst e77
    refine r_goto (pc' := 97) rfl dX12_bounds__52 ?_
    exact r_ret dX12_bounds__97 (rt_i rfl) ⟨rfl, hS57, hF59, ⟨_, rfl⟩, ⟨_, f60⟩⟩
set_option maxRecDepth 20000 in
set_option maxHeartbeats 1000000 in
theorem s_X12_tell {xs : Nat → Int32} {L d : Nat} {h : ev_H} {th : Int32} {tr : Int64} {ty nx tk pl va fa ss wg : Int32} {c m : Nat} {x y : Int32} (hS : SH h) (h5 : h 420 = c420 th tr ty nx tk pl va fa (nI c) (nI m) ss wg) (hc : c ≤ 16) (hm : m ≤ 24) : EV xs L (d + 1) 0 0 M_X12_tell 434 h 0 [some (.ref 420), some (.int x), some (.int y), none, none, none] [] (fun sz' h' r => sz' = 434 ∧ SH h' ∧ KM [420, 431, 432, 433] h h' ∧ (∃ x : Int32, r = [.int x]) ∧ ∃ tr', h' 420 = c420 0 tr' ty nx tk pl va fa (nI c) (nI m) ss wg) := by
  refine r_aload_n rfl dX12_tell_0 rfl ?_
  refine r_iconst (v := 0) rfl dX12_tell_1 (by decide) ?_
  refine m_put 0 (fs' := [.int 0, .long tr, .ref 421, .int ty, .int nx, .int tk, .int pl, .int va, .int fa, .int (nI c), .int (nI m), .int ss, .int wg, .ref 422, .ref 423, .ref 424, .ref 425, .ref 426, .ref 427, .ref 428, .ref 429, .ref 430, .ref 431, .ref 432, .ref 433]) rfl dX12_tell_2 hS (KM_rf (Mod := [420, 431, 432, 433]) h) (by decide) h5 (fp_X12_57 rfl _) (Nat.le_of_ble_eq_true rfl) rfl (fun h51 hS52 hF53 f54 => ?_)
  refine r_iload_n rfl dX12_tell_5 rfl ?_
  refine r_iconst (v := 0) rfl dX12_tell_6 (by decide) ?_
  refine r_sipush (v := 255) rfl dX12_tell_7 (by decide) ?_
  refine cl_X12_60 rfl rfl dX12_tell_10 (Nat.le_of_ble_eq_true rfl) s_X12_in ?_
  rintro _ h55 _ ⟨rfl, e56, rfl⟩
  replace e56 := e56.symm
  subst e56
  refine r_if_eq (tgt := 25) rfl rfl dX12_tell_13 (fun c57 => ?_) (fun c57 => ?_)
  · refine r_iconst (v := (-1)) rfl dX12_tell_25 (by decide) ?_
    exact r_ret dX12_tell_26 (rt_i rfl) ⟨rfl, hS52, hF53, ⟨_, rfl⟩, ⟨_, f54⟩⟩
  · obtain ⟨j58, q59, q60, e61⟩ := inR_nat (a := 0) (b := 255) (by omega) c57
    subst e61
    refine r_iload_n rfl dX12_tell_16 rfl ?_
    refine r_iconst (v := 0) rfl dX12_tell_17 (by decide) ?_
    refine r_iconst (v := 1) rfl dX12_tell_18 (by decide) ?_
    refine cl_X12_60 rfl rfl dX12_tell_19 (Nat.le_of_ble_eq_true rfl) s_X12_in ?_
    rintro _ h62 _ ⟨rfl, e63, rfl⟩
    replace e63 := e63.symm
    subst e63
    refine r_if_ne (tgt := 27) rfl rfl dX12_tell_22 (fun c64 => ?_) (fun c64 => ?_)
    · obtain ⟨j65, q66, q67, e68⟩ := inR_nat (a := 0) (b := 1) (by omega) c64
      subst e68
      refine r_aload_n rfl dX12_tell_27 rfl ?_
      refine r_getv 22 rfl dX12_tell_28 (show 2 ≤ 420 ∧ 420 < 434 by decide) f54 fl_X12_45 rfl ?_
      refine r_iconst (v := 0) rfl dX12_tell_31 (by decide) ?_
      refine r_iload_n rfl dX12_tell_32 rfl ?_
      refine cl_X12_143 rfl rfl dX12_tell_33 (Nat.le_of_ble_eq_true rfl) (s_X12_has hS52 LA_431 (by omega) (q := 0) (w := j58) (by omega) (by omega)) ?_
      rintro _ h69 _ ⟨rfl, e70, x71, z72, rfl⟩
      replace e70 := e70.symm
      subst e70
      have J73 : ∀ v74 : Int32, EV xs L (d + 1) 0 0 M_X12_tell 434 h51 44 [some (.ref 420), some (.int (nI j58)), some (.int (nI j65)), none, none, none] (.int v74 :: []) (fun sz' h' r => sz' = 434 ∧ SH h' ∧ KM [420, 431, 432, 433] h h' ∧ (∃ x : Int32, r = [.int x]) ∧ ∃ tr', h' 420 = c420 0 tr' ty nx tk pl va fa (nI c) (nI m) ss wg) := by
        intro v74
        refine r_istore_n (ls' := [some (.ref 420), some (.int (nI j58)), some (.int (nI j65)), some (.int v74), none, none]) rfl dX12_tell_44 (Nat.le_of_ble_eq_true rfl) rfl ?_
        refine r_lconst (v := 1) rfl dX12_tell_45 (by decide) ?_
        refine r_iload_n rfl dX12_tell_46 rfl ?_
        refine r_bipush (v := 63) rfl dX12_tell_47 (by decide) ?_
        refine r_iand rfl dX12_tell_49 ?_
        refine r_eqi (y := nI (j58 % 64)) (show (nI j58) &&& 63 = nI (j58 % 64) from pk_andN (n := j58) (by omega) (m := 63) 6 (by decide)) ?_
        refine r_lshl rfl dX12_tell_50 ?_
        refine r_topl (fun x75 e76 => ?_)
        refine r_lstore (ls' := [some (.ref 420), some (.int (nI j58)), some (.int (nI j65)), some (.int v74), some (.long x75), none]) rfl dX12_tell_51 (Nat.le_of_ble_eq_true rfl) rfl ?_
        refine r_aload_n rfl dX12_tell_53 rfl ?_
        refine r_getv 22 rfl dX12_tell_54 (show 2 ≤ 420 ∧ 420 < 434 by decide) f54 fl_X12_45 rfl ?_
        refine r_iload_n rfl dX12_tell_57 rfl ?_
        refine r_bipush (v := 6) rfl dX12_tell_58 (by decide) ?_
        refine r_ishr rfl dX12_tell_60 ?_
        refine r_eqi (y := nI (j58 / 64)) (show (nI j58) >>> (6 &&& 31) = nI (j58 / 64) from pk_shrN (n := j58) (by omega) ((6 : Int32) &&& 31) 6 (by decide)) ?_
        refine r_iload_n rfl dX12_tell_61 rfl ?_
        refine r_iconst (v := 1) rfl dX12_tell_62 (by decide) ?_
        have J77 : ∀ v78 : Int64, EV xs L (d + 1) 0 0 M_X12_tell 434 h51 97 [some (.ref 420), some (.int (nI j58)), some (.int (nI j65)), some (.int v74), some (.long x75), none] (.long v78 :: .int (nI (j58 / 64)) :: .ref 431 :: []) (fun sz' h' r => sz' = 434 ∧ SH h' ∧ KM [420, 431, 432, 433] h h' ∧ (∃ x : Int32, r = [.int x]) ∧ ∃ tr', h' 420 = c420 0 tr' ty nx tk pl va fa (nI c) (nI m) ss wg) := by
          intro v78
          obtain ⟨g79, f80⟩ := hS52.la LA_431
          refine m_last rfl dX12_tell_97 (show 2 ≤ 431 ∧ 431 < 434 by decide) hS52 hF53 (by decide) f80 (vp_in_nI (n := j58 / 64) (by omega) (by omega)) (fun h81 hS82 hF83 hN84 => ?_)
          have f85 : h81 420 = c420 0 tr ty nx tk pl va fa (nI c) (nI m) ss wg := (hN84 420 (by decide)).trans f54
          refine r_iload_n rfl dX12_tell_98 rfl ?_
          exact r_ret dX12_tell_99 (rt_i rfl) ⟨rfl, hS82, hF83, ⟨_, rfl⟩, ⟨_, f85⟩⟩
        refine r_icmp_ne (tgt := 81) rfl rfl dX12_tell_63 (fun c86 => ?_) (fun c86 => ?_)
        · have q87 : ¬ j65 = 1 := (not_congr (nI_eq (a := j65) (b := 1)  (by omega) (by omega))).mp c86
          refine r_aload_n rfl dX12_tell_81 rfl ?_
          refine r_getv 22 rfl dX12_tell_82 (show 2 ≤ 420 ∧ 420 < 434 by decide) f54 fl_X12_45 rfl ?_
          refine r_iload_n rfl dX12_tell_85 rfl ?_
          refine r_bipush (v := 6) rfl dX12_tell_86 (by decide) ?_
          refine r_ishr rfl dX12_tell_88 ?_
          refine r_eqi (y := nI (j58 / 64)) (show (nI j58) >>> (6 &&& 31) = nI (j58 / 64) from pk_shrN (n := j58) (by omega) ((6 : Int32) &&& 31) 6 (by decide)) ?_
          obtain ⟨g88, f89⟩ := hS52.la LA_431
          refine r_laldv (jn := j58 / 64) (v := g88 (j58 / 64)) rfl dX12_tell_89 (show 2 ≤ 431 ∧ 431 < 434 by decide) f89 (vp_in_nI (n := j58 / 64) (by omega) (by omega)) (nI_clamp (n := j58 / 64) (by omega)) rfl ?_
          refine r_lload rfl dX12_tell_90 rfl ?_
          refine r_ldc2 (v := (-1)) rfl dX12_tell_92 lc_X12_137 ?_
          refine r_lxor rfl dX12_tell_95 ?_
          refine r_land rfl dX12_tell_96 ?_
          exact J77 _
        · have q90 : j65 = 1 := (nI_eq (a := j65) (b := 1) (by omega) (by omega)).mp c86
          refine r_aload_n rfl dX12_tell_66 rfl ?_
          refine r_getv 22 rfl dX12_tell_67 (show 2 ≤ 420 ∧ 420 < 434 by decide) f54 fl_X12_45 rfl ?_
          refine r_iload_n rfl dX12_tell_70 rfl ?_
          refine r_bipush (v := 6) rfl dX12_tell_71 (by decide) ?_
          refine r_ishr rfl dX12_tell_73 ?_
          refine r_eqi (y := nI (j58 / 64)) (show (nI j58) >>> (6 &&& 31) = nI (j58 / 64) from pk_shrN (n := j58) (by omega) ((6 : Int32) &&& 31) 6 (by decide)) ?_
          obtain ⟨g91, f92⟩ := hS52.la LA_431
          refine r_laldv (jn := j58 / 64) (v := g91 (j58 / 64)) rfl dX12_tell_74 (show 2 ≤ 431 ∧ 431 < 434 by decide) f92 (vp_in_nI (n := j58 / 64) (by omega) (by omega)) (nI_clamp (n := j58 / 64) (by omega)) rfl ?_
          refine r_lload rfl dX12_tell_75 rfl ?_
          refine r_lor rfl dX12_tell_77 ?_
          refine r_goto (pc' := 97) rfl dX12_tell_78 ?_
          exact J77 _
      refine r_if_eq (tgt := 43) rfl rfl dX12_tell_36 (fun c93 => ?_) (fun c93 => ?_)
      · refine r_iconst (v := 0) rfl dX12_tell_43 (by decide) ?_
        exact J73 _
      · refine r_iconst (v := 1) rfl dX12_tell_39 (by decide) ?_
        refine r_goto (pc' := 44) rfl dX12_tell_40 ?_
        exact J73 _
    · refine r_iconst (v := (-1)) rfl dX12_tell_25 (by decide) ?_
      exact r_ret dX12_tell_26 (rt_i rfl) ⟨rfl, hS52, hF53, ⟨_, rfl⟩, ⟨_, f54⟩⟩
set_option maxRecDepth 20000 in
set_option maxHeartbeats 1000000 in
theorem s_X12_check {xs : Nat → Int32} {L d : Nat} {h : ev_H} {th : Int32} {tr : Int64} {ty nx tk pl va fa ss wg : Int32} {c m : Nat} (hS : SH h) (h5 : h 420 = c420 th tr ty nx tk pl va fa (nI c) (nI m) ss wg) (hc : c ≤ 16) (hm : m ≤ 24) : EV xs L (d + 3) 0 0 M_X12_check 434 h 0 [some (.ref 420)] [] (fun sz' h' r => sz' = 434 ∧ SH h' ∧ KM [420, 431, 432, 433] h h' ∧ (∃ x : Int32, r = [.int x]) ∧ ∃ tr', h' 420 = c420 0 tr' ty nx tk pl va fa (nI c) (nI m) ss wg) := by
  refine r_aload_n rfl dX12_check_0 rfl ?_
  refine r_iconst (v := 0) rfl dX12_check_1 (by decide) ?_
  refine m_put 0 (fs' := [.int 0, .long tr, .ref 421, .int ty, .int nx, .int tk, .int pl, .int va, .int fa, .int (nI c), .int (nI m), .int ss, .int wg, .ref 422, .ref 423, .ref 424, .ref 425, .ref 426, .ref 427, .ref 428, .ref 429, .ref 430, .ref 431, .ref 432, .ref 433]) rfl dX12_check_2 hS (KM_rf (Mod := [420, 431, 432, 433]) h) (by decide) h5 (fp_X12_57 rfl _) (Nat.le_of_ble_eq_true rfl) rfl (fun h51 hS52 hF53 f54 => ?_)
  refine r_aload_n rfl dX12_check_5 rfl ?_
  refine r_aload_n rfl dX12_check_6 rfl ?_
  refine r_getv 22 rfl dX12_check_7 (show 2 ≤ 420 ∧ 420 < 434 by decide) f54 fl_X12_45 rfl ?_
  refine cl_X12_174 rfl rfl dX12_check_10 (show 2 ≤ 420 ∧ 420 < 434 by decide).1 (show 2 ≤ 420 ∧ 420 < 434 by decide).2 f54 (Nat.le_of_ble_eq_true rfl) (s_X12_checks hS52 f54 hc hm LA_431) ?_
  rintro _ h55 _ ⟨rfl, e56, x57, rfl⟩
  replace e56 := e56.symm
  subst e56
  exact r_ret dX12_check_13 (rt_i rfl) ⟨rfl, hS52, hF53, ⟨_, rfl⟩, ⟨_, f54⟩⟩
set_option maxRecDepth 20000 in
set_option maxHeartbeats 1000000 in
theorem lp_X12_labour_55 {xs : Nat → Int32} {L d : Nat} {Q : ev_Q} {th : Int32} {tr : Int64} {ty nx tk pl va fa ss wg : Int32} {c m : Nat} {j58 : Nat} {j65 : Nat} {xf3 : Int32} {h0 : ev_H} (h5 : h0 420 = c420 th tr ty nx tk pl va fa (nI c) (nI m) ss wg) (hc : c ≤ 16) (hm : m ≤ 24) (hb_j58 : j58 < 3 + 1) (hb_j65 : j65 < c + m) : ∀ (n k : Nat), k + n = 4 → ∀ (h : ev_H) (hS : SH h) (hF : KM [431, 432, 433] h0 h)  (hK : ∀ (h : ev_H) (hS : SH h) (hF : KM [431, 432, 433] h0 h) (kx : Int32) , EV xs L (d + 2) 0 0 M_X12_labour 434 h 85 [some (.ref 420), some (.int (nI j58)), some (.int (nI j65)), some (.int xf3), some (.int kx)] [] Q), EV xs L (d + 2) 0 0 M_X12_labour 434 h 55 [some (.ref 420), some (.int (nI j58)), some (.int (nI j65)), some (.int xf3), some (.int (nI k))] [] Q := by
  intro n
  induction n with
  | zero =>
    intro k hk h hS hF  hK
    refine r_iload rfl dX12_labour_55 rfl ?_
    refine r_iconst (v := 4) rfl dX12_labour_57 (by decide) ?_
    refine r_icmp_ge (tgt := 85) rfl rfl dX12_labour_58 (fun _ => ?_) (fun zc => absurd (show 4 ≤ nI k from nI_le (a := 4) (b := k) (by omega) (by omega)) zc)
    exact hK h hS hF (nI k) 
  | succ n ih =>
    intro k hk h hS hF  hK
    refine r_iload rfl dX12_labour_55 rfl ?_
    refine r_iconst (v := 4) rfl dX12_labour_57 (by decide) ?_
    refine r_icmp_ge (tgt := 85) rfl rfl dX12_labour_58 (fun zc => absurd zc (show ¬ 4 ≤ nI k from nI_ge (a := k) (b := 4) (by omega) (by omega))) (fun _ => ?_)
    refine r_aload_n rfl dX12_labour_61 rfl ?_
    refine r_getv 23 rfl dX12_labour_62 (show 2 ≤ 420 ∧ 420 < 434 by decide) ((hF 420 (by decide)).trans h5) fl_X12_48 rfl ?_
    refine r_iload rfl dX12_labour_65 rfl ?_
    refine r_aload_n rfl dX12_labour_67 rfl ?_
    refine r_getv 17 rfl dX12_labour_68 (show 2 ≤ 420 ∧ 420 < 434 by decide) ((hF 420 (by decide)).trans h5) fl_X12_30 rfl ?_
    refine r_iconst (v := 4) rfl dX12_labour_71 (by decide) ?_
    refine r_iload_n rfl dX12_labour_72 rfl ?_
    refine r_imul rfl dX12_labour_73 ?_
    refine r_eqi (y := nI (4 * j65)) (show 4 * (nI j65) = nI (4 * j65) from pk_mul 4 j65) ?_
    refine r_iload rfl dX12_labour_74 rfl ?_
    refine r_iadd rfl dX12_labour_76 ?_
    refine r_eqi (y := nI ((4 * j65) + k)) (show (nI (4 * j65)) + (nI k) = nI ((4 * j65) + k) from nI_add (4 * j65) k) ?_
    obtain ⟨g180, f181⟩ := hS.la LA_426
    refine r_laldv (jn := (4 * j65) + k) (v := g180 ((4 * j65) + k)) rfl dX12_labour_77 (show 2 ≤ 426 ∧ 426 < 434 by decide) f181 (vp_in_nI (n := (4 * j65) + k) (by omega) (by omega)) (nI_clamp (n := (4 * j65) + k) (by omega)) rfl ?_
    obtain ⟨g182, f183⟩ := hS.la LA_432
    refine m_last rfl dX12_labour_78 (show 2 ≤ 432 ∧ 432 < 434 by decide) hS hF (by decide) f183 (vp_in_nI (n := k) (by omega) (by omega)) (fun h184 hS185 hF186 hN187 => ?_)
    refine r_iinc (y := nI (k + 1)) (ls' := [some (.ref 420), some (.int (nI j58)), some (.int (nI j65)), some (.int xf3), some (.int (nI (k + 1)))]) rfl dX12_labour_79 rfl (nI_1 k) (Nat.le_of_ble_eq_true rfl) rfl ?_
    refine r_goto (pc' := 55) rfl dX12_labour_82 ?_
    exact ih (k + 1) (by omega) h184 hS185 hF186  hK
set_option maxRecDepth 20000 in
set_option maxHeartbeats 1000000 in
theorem s_X12_labour {xs : Nat → Int32} {L d : Nat} {h : ev_H} {th : Int32} {tr : Int64} {ty nx tk pl va fa ss wg : Int32} {c m : Nat} {x y : Int32} (hS : SH h) (h5 : h 420 = c420 th tr ty nx tk pl va fa (nI c) (nI m) ss wg) (hc : c ≤ 16) (hm : m ≤ 24) : EV xs L (d + 2) 0 0 M_X12_labour 434 h 0 [some (.ref 420), some (.int x), some (.int y), none, none] [] (fun sz' h' r => sz' = 434 ∧ SH h' ∧ KM [420, 431, 432, 433] h h' ∧ (∃ x : Int32, r = [.int x]) ∧ ∃ tr', h' 420 = c420 0 tr' ty nx tk pl va fa (nI c) (nI m) ss wg) := by
  refine r_aload_n rfl dX12_labour_0 rfl ?_
  refine r_iconst (v := 0) rfl dX12_labour_1 (by decide) ?_
  refine m_put 0 (fs' := [.int 0, .long tr, .ref 421, .int ty, .int nx, .int tk, .int pl, .int va, .int fa, .int (nI c), .int (nI m), .int ss, .int wg, .ref 422, .ref 423, .ref 424, .ref 425, .ref 426, .ref 427, .ref 428, .ref 429, .ref 430, .ref 431, .ref 432, .ref 433]) rfl dX12_labour_2 hS (KM_rf (Mod := [420, 431, 432, 433]) h) (by decide) h5 (fp_X12_57 rfl _) (Nat.le_of_ble_eq_true rfl) rfl (fun h51 hS52 hF53 f54 => ?_)
  refine r_iload_n rfl dX12_labour_5 rfl ?_
  refine r_iconst (v := 0) rfl dX12_labour_6 (by decide) ?_
  refine r_iconst (v := 3) rfl dX12_labour_7 (by decide) ?_
  refine cl_X12_60 rfl rfl dX12_labour_8 (Nat.le_of_ble_eq_true rfl) s_X12_in ?_
  rintro _ h55 _ ⟨rfl, e56, rfl⟩
  replace e56 := e56.symm
  subst e56
  refine r_if_eq (tgt := 22) rfl rfl dX12_labour_11 (fun c57 => ?_) (fun c57 => ?_)
  · refine r_iconst (v := (-1)) rfl dX12_labour_22 (by decide) ?_
    exact r_ret dX12_labour_23 (rt_i rfl) ⟨rfl, hS52, hF53, ⟨_, rfl⟩, ⟨_, f54⟩⟩
  · obtain ⟨j58, q59, q60, e61⟩ := inR_nat (a := 0) (b := 3) (by omega) c57
    subst e61
    refine r_aload_n rfl dX12_labour_14 rfl ?_
    refine r_iload_n rfl dX12_labour_15 rfl ?_
    refine cl_X12_157 rfl rfl dX12_labour_16 (show 2 ≤ 420 ∧ 420 < 434 by decide).1 (show 2 ≤ 420 ∧ 420 < 434 by decide).2 f54 (Nat.le_of_ble_eq_true rfl) (s_X12_isLine hS52 f54 hc hm) ?_
    rintro _ h62 _ ⟨rfl, e63, rfl⟩
    replace e63 := e63.symm
    subst e63
    refine r_if_ne (tgt := 24) rfl rfl dX12_labour_19 (fun c64 => ?_) (fun c64 => ?_)
    · obtain ⟨j65, q66, e67⟩ := isLn (n := c + m) (by omega) c64
      subst e67
      refine r_aload_n rfl dX12_labour_24 rfl ?_
      refine r_getv 13 rfl dX12_labour_25 (show 2 ≤ 420 ∧ 420 < 434 by decide) f54 fl_X12_17 rfl ?_
      refine r_bipush (v := 6) rfl dX12_labour_28 (by decide) ?_
      refine r_iload_n rfl dX12_labour_30 rfl ?_
      refine r_imul rfl dX12_labour_31 ?_
      refine r_eqi (y := nI (6 * j65)) (show 6 * (nI j65) = nI (6 * j65) from pk_mul 6 j65) ?_
      obtain ⟨g68, f69⟩ := hS52.li LI_422
      refine r_ialdv (jn := 6 * j65) (v := g68 (6 * j65)) rfl dX12_labour_32 (show 2 ≤ 422 ∧ 422 < 434 by decide) f69 (vp_in_nI (n := 6 * j65) (by omega) (by omega)) (nI_clamp (n := 6 * j65) (by omega)) rfl ?_
      refine cl_X12_177 rfl rfl dX12_labour_33 (Nat.le_of_ble_eq_true rfl) (s_X12_ones hS52) ?_
      rintro _ h70 _ ⟨rfl, e71, x72, rfl⟩
      replace e71 := e71.symm
      subst e71
      refine r_aload_n rfl dX12_labour_36 rfl ?_
      refine r_getv 13 rfl dX12_labour_37 (show 2 ≤ 420 ∧ 420 < 434 by decide) f54 fl_X12_17 rfl ?_
      refine r_bipush (v := 6) rfl dX12_labour_40 (by decide) ?_
      refine r_iload_n rfl dX12_labour_42 rfl ?_
      refine r_imul rfl dX12_labour_43 ?_
      refine r_eqi (y := nI (6 * j65)) (show 6 * (nI j65) = nI (6 * j65) from pk_mul 6 j65) ?_
      refine r_iconst (v := 1) rfl dX12_labour_44 (by decide) ?_
      refine r_iadd rfl dX12_labour_45 ?_
      refine r_eqi (y := nI ((6 * j65) + 1)) (show (nI (6 * j65)) + 1 = nI ((6 * j65) + 1) from nI_add (6 * j65) 1) ?_
      obtain ⟨g73, f74⟩ := hS52.li LI_422
      refine r_ialdv (jn := (6 * j65) + 1) (v := g73 ((6 * j65) + 1)) rfl dX12_labour_46 (show 2 ≤ 422 ∧ 422 < 434 by decide) f74 (vp_in_nI (n := (6 * j65) + 1) (by omega) (by omega)) (nI_clamp (n := (6 * j65) + 1) (by omega)) rfl ?_
      refine cl_X12_177 rfl rfl dX12_labour_47 (Nat.le_of_ble_eq_true rfl) (s_X12_ones hS52) ?_
      rintro _ h75 _ ⟨rfl, e76, x77, rfl⟩
      replace e76 := e76.symm
      subst e76
      refine r_iadd rfl dX12_labour_50 ?_
      refine r_topi (fun x78 e79 => ?_)
      refine r_istore_n (ls' := [some (.ref 420), some (.int (nI j58)), some (.int (nI j65)), some (.int x78), none]) rfl dX12_labour_51 (Nat.le_of_ble_eq_true rfl) rfl ?_
      refine r_iconst (v := 0) rfl dX12_labour_52 (by decide) ?_
      refine r_istore (ls' := [some (.ref 420), some (.int (nI j58)), some (.int (nI j65)), some (.int x78), some (.int 0)]) rfl dX12_labour_53 (Nat.le_of_ble_eq_true rfl) rfl ?_
      refine lp_X12_labour_55 f54 hc hm (by omega) (by omega) (4 - 0) 0 (by omega) h51 hS52 (KM_rf _)  ?_
      intro h81 hS82 hK83 kx80 
      have hF84 := KM_tr hF53 (KM_sb (by decide) hK83)
      have f85 : h81 420 = c420 0 tr ty nx tk pl va fa (nI c) (nI m) ss wg := (hK83 420 (by decide)).trans f54
      refine r_iload_n rfl dX12_labour_85 rfl ?_
      refine r_aload_n rfl dX12_labour_86 rfl ?_
      refine r_getv 23 rfl dX12_labour_87 (show 2 ≤ 420 ∧ 420 < 434 by decide) f85 fl_X12_48 rfl ?_
      refine cl_X12_160 rfl rfl dX12_labour_90 (Nat.le_of_ble_eq_true rfl) (s_X12_many hS82 LA_432) ?_
      rintro _ h86 _ ⟨rfl, e87, x88, rfl⟩
      replace e87 := e87.symm
      subst e87
      refine r_iadd rfl dX12_labour_93 ?_
      refine r_topi (fun x89 e90 => ?_)
      refine r_istore (ls' := [some (.ref 420), some (.int (nI j58)), some (.int (nI j65)), some (.int x78), some (.int x89)]) rfl dX12_labour_94 (Nat.le_of_ble_eq_true rfl) rfl ?_
      refine r_aload_n rfl dX12_labour_96 rfl ?_
      refine r_dup rfl dX12_labour_97 rfl ?_
      refine r_getv 1 rfl dX12_labour_98 (show 2 ≤ 420 ∧ 420 < 434 by decide) f85 fl_X12_183 rfl ?_
      refine r_iload_n rfl dX12_labour_101 rfl ?_
      have J91 : ∀ v92 : Int64, EV xs L (d + 2) 0 0 M_X12_labour 434 h81 134 [some (.ref 420), some (.int (nI j58)), some (.int (nI j65)), some (.int x78), some (.int x89)] (.long v92 :: .long tr :: .ref 420 :: []) (fun sz' h' r => sz' = 434 ∧ SH h' ∧ KM [420, 431, 432, 433] h h' ∧ (∃ x : Int32, r = [.int x]) ∧ ∃ tr', h' 420 = c420 0 tr' ty nx tk pl va fa (nI c) (nI m) ss wg) := by
        intro v92
        refine r_ladd rfl dX12_labour_134 ?_
        refine r_topl (fun x93 e94 => ?_)
        refine m_put 1 (fs' := [.int 0, .long x93, .ref 421, .int ty, .int nx, .int tk, .int pl, .int va, .int fa, .int (nI c), .int (nI m), .int ss, .int wg, .ref 422, .ref 423, .ref 424, .ref 425, .ref 426, .ref 427, .ref 428, .ref 429, .ref 430, .ref 431, .ref 432, .ref 433]) rfl dX12_labour_135 hS82 hF84 (by decide) f85 (fp_X12_183 rfl _) (Nat.le_of_ble_eq_true rfl) rfl (fun h95 hS96 hF97 f98 => ?_)
        refine r_iload_n rfl dX12_labour_138 rfl ?_
        refine r_if_ne (tgt := 146) rfl rfl dX12_labour_139 (fun c99 => ?_) (fun c99 => ?_)
        · have q100 : ¬ j58 = 0 := (not_congr (nI_eq (a := j58) (b := 0)  (by omega) (by omega))).mp c99
          refine r_iload_n rfl dX12_labour_146 rfl ?_
          refine r_iconst (v := 1) rfl dX12_labour_147 (by decide) ?_
          refine r_icmp_ne (tgt := 156) rfl rfl dX12_labour_148 (fun c101 => ?_) (fun c101 => ?_)
          · have q102 : ¬ j58 = 1 := (not_congr (nI_eq (a := j58) (b := 1)  (by omega) (by omega))).mp c101
            refine r_iload_n rfl dX12_labour_156 rfl ?_
            refine r_iconst (v := 2) rfl dX12_labour_157 (by decide) ?_
            refine r_icmp_ne (tgt := 169) rfl rfl dX12_labour_158 (fun c103 => ?_) (fun c103 => ?_)
            · have q104 : ¬ j58 = 2 := (not_congr (nI_eq (a := j58) (b := 2)  (by omega) (by omega))).mp c103
              refine r_iload rfl dX12_labour_169 rfl ?_
              refine r_iconst (v := 2) rfl dX12_labour_171 (by decide) ?_
              refine r_idiv rfl dX12_labour_172 (by decide) ?_
              exact r_ret dX12_labour_173 (rt_i rfl) ⟨rfl, hS96, hF97, ⟨_, rfl⟩, ⟨_, f98⟩⟩
            · have q105 : j58 = 2 := (nI_eq (a := j58) (b := 2) (by omega) (by omega)).mp c103
              refine r_iconst (v := 2) rfl dX12_labour_161 (by decide) ?_
              refine r_iload_n rfl dX12_labour_162 rfl ?_
              refine r_imul rfl dX12_labour_163 ?_
              refine r_iconst (v := 1) rfl dX12_labour_164 (by decide) ?_
              refine r_iadd rfl dX12_labour_165 ?_
              refine r_goto (pc' := 173) rfl dX12_labour_166 ?_
              exact r_ret dX12_labour_173 (rt_i rfl) ⟨rfl, hS96, hF97, ⟨_, rfl⟩, ⟨_, f98⟩⟩
          · have q106 : j58 = 1 := (nI_eq (a := j58) (b := 1) (by omega) (by omega)).mp c101
            refine r_iload rfl dX12_labour_151 rfl ?_
            refine r_goto (pc' := 173) rfl dX12_labour_153 ?_
            exact r_ret dX12_labour_173 (rt_i rfl) ⟨rfl, hS96, hF97, ⟨_, rfl⟩, ⟨_, f98⟩⟩
        · have q107 : j58 = 0 := (nI_eq (a := j58) (b := 0) (by omega) (by omega)).mp c99
          refine r_iload_n rfl dX12_labour_142 rfl ?_
          refine r_goto (pc' := 173) rfl dX12_labour_143 ?_
          exact r_ret dX12_labour_173 (rt_i rfl) ⟨rfl, hS96, hF97, ⟨_, rfl⟩, ⟨_, f98⟩⟩
      refine r_if_ne (tgt := 109) rfl rfl dX12_labour_102 (fun c108 => ?_) (fun c108 => ?_)
      · have q109 : ¬ j58 = 0 := (not_congr (nI_eq (a := j58) (b := 0)  (by omega) (by omega))).mp c108
        refine r_iload_n rfl dX12_labour_109 rfl ?_
        refine r_iconst (v := 1) rfl dX12_labour_110 (by decide) ?_
        refine r_icmp_ne (tgt := 120) rfl rfl dX12_labour_111 (fun c110 => ?_) (fun c110 => ?_)
        · have q111 : ¬ j58 = 1 := (not_congr (nI_eq (a := j58) (b := 1)  (by omega) (by omega))).mp c110
          refine r_iload_n rfl dX12_labour_120 rfl ?_
          refine r_iconst (v := 2) rfl dX12_labour_121 (by decide) ?_
          refine r_icmp_ne (tgt := 131) rfl rfl dX12_labour_122 (fun c112 => ?_) (fun c112 => ?_)
          · have q113 : ¬ j58 = 2 := (not_congr (nI_eq (a := j58) (b := 2)  (by omega) (by omega))).mp c112
            refine r_ldc2 (v := 1011) rfl dX12_labour_131 lc_X12_191 ?_
            exact J91 _
          · have q114 : j58 = 2 := (nI_eq (a := j58) (b := 2) (by omega) (by omega)).mp c112
            refine r_ldc2 (v := 101) rfl dX12_labour_125 lc_X12_189 ?_
            refine r_goto (pc' := 134) rfl dX12_labour_128 ?_
            exact J91 _
        · have q115 : j58 = 1 := (nI_eq (a := j58) (b := 1) (by omega) (by omega)).mp c110
          refine r_ldc2 (v := 11) rfl dX12_labour_114 lc_X12_187 ?_
          refine r_goto (pc' := 134) rfl dX12_labour_117 ?_
          exact J91 _
      · have q116 : j58 = 0 := (nI_eq (a := j58) (b := 0) (by omega) (by omega)).mp c108
        refine r_lconst (v := 1) rfl dX12_labour_105 (by decide) ?_
        refine r_goto (pc' := 134) rfl dX12_labour_106 ?_
        exact J91 _
    · refine r_iconst (v := (-1)) rfl dX12_labour_22 (by decide) ?_
      exact r_ret dX12_labour_23 (rt_i rfl) ⟨rfl, hS52, hF53, ⟨_, rfl⟩, ⟨_, f54⟩⟩
set_option maxRecDepth 20000 in
set_option maxHeartbeats 1000000 in
theorem s_X12_count {xs : Nat → Int32} {L d : Nat} {h : ev_H} {th : Int32} {tr : Int64} {ty nx tk pl va fa ss wg : Int32} {c m : Nat} {x : Int32} (hS : SH h) (h5 : h 420 = c420 th tr ty nx tk pl va fa (nI c) (nI m) ss wg) (hc : c ≤ 16) (hm : m ≤ 24) : EV xs L (d + 2) 0 0 M_X12_count 434 h 0 [some (.ref 420), some (.int x)] [] (fun sz' h' r => sz' = 434 ∧ SH h' ∧ KM [420, 431, 432, 433] h h' ∧ (∃ x : Int32, r = [.int x]) ∧ ∃ tr', h' 420 = c420 0 tr' ty nx tk pl va fa (nI c) (nI m) ss wg) := by
  refine r_aload_n rfl dX12_count_0 rfl ?_
  refine r_iconst (v := 0) rfl dX12_count_1 (by decide) ?_
  refine m_put 0 (fs' := [.int 0, .long tr, .ref 421, .int ty, .int nx, .int tk, .int pl, .int va, .int fa, .int (nI c), .int (nI m), .int ss, .int wg, .ref 422, .ref 423, .ref 424, .ref 425, .ref 426, .ref 427, .ref 428, .ref 429, .ref 430, .ref 431, .ref 432, .ref 433]) rfl dX12_count_2 hS (KM_rf (Mod := [420, 431, 432, 433]) h) (by decide) h5 (fp_X12_57 rfl _) (Nat.le_of_ble_eq_true rfl) rfl (fun h51 hS52 hF53 f54 => ?_)
  refine r_iload_n rfl dX12_count_5 rfl ?_
  refine r_if_ne (tgt := 16) rfl rfl dX12_count_6 (fun c55 => ?_) (fun c55 => ?_)
  · refine r_iload_n rfl dX12_count_16 rfl ?_
    refine r_iconst (v := 1) rfl dX12_count_17 (by decide) ?_
    refine r_icmp_ne (tgt := 28) rfl rfl dX12_count_18 (fun c56 => ?_) (fun c56 => ?_)
    · refine r_iload_n rfl dX12_count_28 rfl ?_
      refine r_iconst (v := 2) rfl dX12_count_29 (by decide) ?_
      refine r_icmp_ne (tgt := 40) rfl rfl dX12_count_30 (fun c57 => ?_) (fun c57 => ?_)
      · refine r_iload_n rfl dX12_count_40 rfl ?_
        refine r_iconst (v := 3) rfl dX12_count_41 (by decide) ?_
        refine r_icmp_ne (tgt := 55) rfl rfl dX12_count_42 (fun c58 => ?_) (fun c58 => ?_)
        · refine r_iload_n rfl dX12_count_55 rfl ?_
          refine r_iconst (v := 4) rfl dX12_count_56 (by decide) ?_
          refine r_icmp_ne (tgt := 67) rfl rfl dX12_count_57 (fun c59 => ?_) (fun c59 => ?_)
          · refine r_iload_n rfl dX12_count_67 rfl ?_
            refine r_iconst (v := 5) rfl dX12_count_68 (by decide) ?_
            refine r_icmp_ne (tgt := 82) rfl rfl dX12_count_69 (fun c60 => ?_) (fun c60 => ?_)
            · refine r_iconst (v := (-1)) rfl dX12_count_82 (by decide) ?_
              exact r_ret dX12_count_83 (rt_i rfl) ⟨rfl, hS52, hF53, ⟨_, rfl⟩, ⟨_, f54⟩⟩
            · refine r_aload_n rfl dX12_count_72 rfl ?_
              refine r_getv 22 rfl dX12_count_73 (show 2 ≤ 420 ∧ 420 < 434 by decide) f54 fl_X12_45 rfl ?_
              refine cl_X12_160 rfl rfl dX12_count_76 (Nat.le_of_ble_eq_true rfl) (s_X12_many hS52 LA_431) ?_
              rintro _ h61 _ ⟨rfl, e62, x63, rfl⟩
              replace e62 := e62.symm
              subst e62
              refine r_goto (pc' := 83) rfl dX12_count_79 ?_
              exact r_ret dX12_count_83 (rt_i rfl) ⟨rfl, hS52, hF53, ⟨_, rfl⟩, ⟨_, f54⟩⟩
          · refine r_aload_n rfl dX12_count_60 rfl ?_
            refine r_getv 3 rfl dX12_count_61 (show 2 ≤ 420 ∧ 420 < 434 by decide) f54 fl_X12_64 rfl ?_
            refine r_goto (pc' := 83) rfl dX12_count_64 ?_
            exact r_ret dX12_count_83 (rt_i rfl) ⟨rfl, hS52, hF53, ⟨_, rfl⟩, ⟨_, f54⟩⟩
        · refine r_aload_n rfl dX12_count_45 rfl ?_
          refine cl_X12_133 rfl rfl dX12_count_46 (show 2 ≤ 420 ∧ 420 < 434 by decide).1 (show 2 ≤ 420 ∧ 420 < 434 by decide).2 f54 (Nat.le_of_ble_eq_true rfl) (s_X12_shared hS52 f54 hc hm) ?_
          rintro _ h64 _ ⟨rfl, e65, x66, rfl⟩
          replace e65 := e65.symm
          subst e65
          refine cl_X12_177 rfl rfl dX12_count_49 (Nat.le_of_ble_eq_true rfl) (s_X12_ones hS52) ?_
          rintro _ h67 _ ⟨rfl, e68, x69, rfl⟩
          replace e68 := e68.symm
          subst e68
          refine r_goto (pc' := 83) rfl dX12_count_52 ?_
          exact r_ret dX12_count_83 (rt_i rfl) ⟨rfl, hS52, hF53, ⟨_, rfl⟩, ⟨_, f54⟩⟩
      · refine r_aload_n rfl dX12_count_33 rfl ?_
        refine r_getv 11 rfl dX12_count_34 (show 2 ≤ 420 ∧ 420 < 434 by decide) f54 fl_X12_118 rfl ?_
        refine r_goto (pc' := 83) rfl dX12_count_37 ?_
        exact r_ret dX12_count_83 (rt_i rfl) ⟨rfl, hS52, hF53, ⟨_, rfl⟩, ⟨_, f54⟩⟩
    · refine r_aload_n rfl dX12_count_21 rfl ?_
      refine r_getv 10 rfl dX12_count_22 (show 2 ≤ 420 ∧ 420 < 434 by decide) f54 fl_X12_115 rfl ?_
      refine r_goto (pc' := 83) rfl dX12_count_25 ?_
      exact r_ret dX12_count_83 (rt_i rfl) ⟨rfl, hS52, hF53, ⟨_, rfl⟩, ⟨_, f54⟩⟩
  · refine r_aload_n rfl dX12_count_9 rfl ?_
    refine r_getv 9 rfl dX12_count_10 (show 2 ≤ 420 ∧ 420 < 434 by decide) f54 fl_X12_112 rfl ?_
    refine r_goto (pc' := 83) rfl dX12_count_13 ?_
    exact r_ret dX12_count_83 (rt_i rfl) ⟨rfl, hS52, hF53, ⟨_, rfl⟩, ⟨_, f54⟩⟩
set_option maxRecDepth 20000 in
set_option maxHeartbeats 1000000 in
theorem s_X12_trace {xs : Nat → Int32} {L d : Nat} {h : ev_H} {th : Int32} {tr : Int64} {ty nx tk pl va fa ss wg : Int32} {c m : Nat} (hS : SH h) (h5 : h 420 = c420 th tr ty nx tk pl va fa (nI c) (nI m) ss wg) (hc : c ≤ 16) (hm : m ≤ 24) : EV xs L (d + 0) 0 0 M_X12_trace 434 h 0 [some (.ref 420)] [] (fun sz' h' r => sz' = 434 ∧ SH h' ∧ KM [420, 431, 432, 433] h h' ∧ (∃ x : Int64, r = [.long x]) ∧ ∃ tr', h' 420 = c420 0 tr' ty nx tk pl va fa (nI c) (nI m) ss wg) := by
  refine r_aload_n rfl dX12_trace_0 rfl ?_
  refine r_iconst (v := 0) rfl dX12_trace_1 (by decide) ?_
  refine m_put 0 (fs' := [.int 0, .long tr, .ref 421, .int ty, .int nx, .int tk, .int pl, .int va, .int fa, .int (nI c), .int (nI m), .int ss, .int wg, .ref 422, .ref 423, .ref 424, .ref 425, .ref 426, .ref 427, .ref 428, .ref 429, .ref 430, .ref 431, .ref 432, .ref 433]) rfl dX12_trace_2 hS (KM_rf (Mod := [420, 431, 432, 433]) h) (by decide) h5 (fp_X12_57 rfl _) (Nat.le_of_ble_eq_true rfl) rfl (fun h51 hS52 hF53 f54 => ?_)
  refine r_aload_n rfl dX12_trace_5 rfl ?_
  refine r_getv 1 rfl dX12_trace_6 (show 2 ≤ 420 ∧ 420 < 434 by decide) f54 fl_X12_183 rfl ?_
  exact r_ret dX12_trace_9 (rt_l rfl) ⟨rfl, hS52, hF53, ⟨_, rfl⟩, ⟨_, f54⟩⟩
