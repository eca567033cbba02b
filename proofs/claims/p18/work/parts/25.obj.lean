theorem dX11_lineAt_0 : decode cX11_lineAt 0 = .ok (.iload_n 1, 1) := by decide +kernel
theorem dX11_lineAt_1 : decode cX11_lineAt 1 = .ok (.ifCond .lt 20, 3) := by decide +kernel
theorem dX11_lineAt_4 : decode cX11_lineAt 4 = .ok (.iload_n 1, 1) := by decide +kernel
theorem dX11_lineAt_5 : decode cX11_lineAt 5 = .ok (.aload_n 0, 1) := by decide +kernel
theorem dX11_lineAt_6 : decode cX11_lineAt 6 = .ok (.getfield 118, 3) := by decide +kernel
theorem dX11_lineAt_9 : decode cX11_lineAt 9 = .ok (.if_icmp .ge 12, 3) := by decide +kernel
theorem dX11_lineAt_12 : decode cX11_lineAt 12 = .ok (.iload_n 1, 1) := by decide +kernel
theorem dX11_lineAt_13 : decode cX11_lineAt 13 = .ok (.aload_n 0, 1) := by decide +kernel
theorem dX11_lineAt_14 : decode cX11_lineAt 14 = .ok (.getfield 25, 3) := by decide +kernel
theorem dX11_lineAt_17 : decode cX11_lineAt 17 = .ok (.arraylength, 1) := by decide +kernel
theorem dX11_lineAt_18 : decode cX11_lineAt 18 = .ok (.if_icmp .lt 7, 3) := by decide +kernel
theorem dX11_lineAt_21 : decode cX11_lineAt 21 = .ok (.aconst_null, 1) := by decide +kernel
theorem dX11_lineAt_22 : decode cX11_lineAt 22 = .ok (.goto 9, 3) := by decide +kernel
theorem dX11_lineAt_25 : decode cX11_lineAt 25 = .ok (.aload_n 0, 1) := by decide +kernel
theorem dX11_lineAt_26 : decode cX11_lineAt 26 = .ok (.getfield 25, 3) := by decide +kernel
theorem dX11_lineAt_29 : decode cX11_lineAt 29 = .ok (.iload_n 1, 1) := by decide +kernel
theorem dX11_lineAt_30 : decode cX11_lineAt 30 = .ok (.aaload, 1) := by decide +kernel
theorem dX11_lineAt_31 : decode cX11_lineAt 31 = .ok (.areturn, 1) := by decide +kernel
theorem dX11_setOf_0 : decode cX11_setOf 0 = .ok (.iload_n 1, 1) := by decide +kernel
theorem dX11_setOf_1 : decode cX11_setOf 1 = .ok (.tableswitch 48 3 5 #[27, 35, 43], 27) := by decide +kernel
theorem dX11_setOf_28 : decode cX11_setOf 28 = .ok (.aload_n 0, 1) := by decide +kernel
theorem dX11_setOf_29 : decode cX11_setOf 29 = .ok (.getfield 32, 3) := by decide +kernel
theorem dX11_setOf_32 : decode cX11_setOf 32 = .ok (.getfield 177, 3) := by decide +kernel
theorem dX11_setOf_35 : decode cX11_setOf 35 = .ok (.areturn, 1) := by decide +kernel
theorem dX11_setOf_36 : decode cX11_setOf 36 = .ok (.aload_n 0, 1) := by decide +kernel
theorem dX11_setOf_37 : decode cX11_setOf 37 = .ok (.getfield 32, 3) := by decide +kernel
theorem dX11_setOf_40 : decode cX11_setOf 40 = .ok (.getfield 180, 3) := by decide +kernel
theorem dX11_setOf_43 : decode cX11_setOf 43 = .ok (.areturn, 1) := by decide +kernel
theorem dX11_setOf_44 : decode cX11_setOf 44 = .ok (.aload_n 0, 1) := by decide +kernel
theorem dX11_setOf_45 : decode cX11_setOf 45 = .ok (.getfield 46, 3) := by decide +kernel
theorem dX11_setOf_48 : decode cX11_setOf 48 = .ok (.areturn, 1) := by decide +kernel
theorem dX11_setOf_49 : decode cX11_setOf 49 = .ok (.aload_n 0, 1) := by decide +kernel
theorem dX11_setOf_50 : decode cX11_setOf 50 = .ok (.aload_n 0, 1) := by decide +kernel
theorem dX11_setOf_51 : decode cX11_setOf 51 = .ok (.getfield 86, 3) := by decide +kernel
theorem dX11_setOf_54 : decode cX11_setOf 54 = .ok (.invokevirtual 121, 3) := by decide +kernel
theorem dX11_setOf_57 : decode cX11_setOf 57 = .ok (.astore_n 2, 1) := by decide +kernel
theorem dX11_setOf_58 : decode cX11_setOf 58 = .ok (.aload_n 2, 1) := by decide +kernel
theorem dX11_setOf_59 : decode cX11_setOf 59 = .ok (.ifnonnull 7, 3) := by decide +kernel
theorem dX11_setOf_62 : decode cX11_setOf 62 = .ok (.aconst_null, 1) := by decide +kernel
theorem dX11_setOf_63 : decode cX11_setOf 63 = .ok (.goto 8, 3) := by decide +kernel
theorem dX11_setOf_66 : decode cX11_setOf 66 = .ok (.aload_n 2, 1) := by decide +kernel
theorem dX11_setOf_67 : decode cX11_setOf 67 = .ok (.iload_n 1, 1) := by decide +kernel
theorem dX11_setOf_68 : decode cX11_setOf 68 = .ok (.invokevirtual 153, 3) := by decide +kernel
theorem dX11_setOf_71 : decode cX11_setOf 71 = .ok (.areturn, 1) := by decide +kernel
theorem dX11_ruleOf_0 : decode cX11_ruleOf 0 = .ok (.iload_n 1, 1) := by decide +kernel
theorem dX11_ruleOf_1 : decode cX11_ruleOf 1 = .ok (.tableswitch 51 0 3 #[31, 36, 41, 46], 31) := by decide +kernel
theorem dX11_ruleOf_32 : decode cX11_ruleOf 32 = .ok (.aload_n 0, 1) := by decide +kernel
theorem dX11_ruleOf_33 : decode cX11_ruleOf 33 = .ok (.getfield 60, 3) := by decide +kernel
theorem dX11_ruleOf_36 : decode cX11_ruleOf 36 = .ok (.areturn, 1) := by decide +kernel
theorem dX11_ruleOf_37 : decode cX11_ruleOf 37 = .ok (.aload_n 0, 1) := by decide +kernel
theorem dX11_ruleOf_38 : decode cX11_ruleOf 38 = .ok (.getfield 67, 3) := by decide +kernel
theorem dX11_ruleOf_41 : decode cX11_ruleOf 41 = .ok (.areturn, 1) := by decide +kernel
theorem dX11_ruleOf_42 : decode cX11_ruleOf 42 = .ok (.aload_n 0, 1) := by decide +kernel
theorem dX11_ruleOf_43 : decode cX11_ruleOf 43 = .ok (.getfield 73, 3) := by decide +kernel
theorem dX11_ruleOf_46 : decode cX11_ruleOf 46 = .ok (.areturn, 1) := by decide +kernel
theorem dX11_ruleOf_47 : decode cX11_ruleOf 47 = .ok (.aload_n 0, 1) := by decide +kernel
theorem dX11_ruleOf_48 : decode cX11_ruleOf 48 = .ok (.getfield 79, 3) := by decide +kernel
theorem dX11_ruleOf_51 : decode cX11_ruleOf 51 = .ok (.areturn, 1) := by decide +kernel
theorem dX11_ruleOf_52 : decode cX11_ruleOf 52 = .ok (.aconst_null, 1) := by decide +kernel
theorem dX11_ruleOf_53 : decode cX11_ruleOf 53 = .ok (.areturn, 1) := by decide +kernel
theorem dX11_wrong_0 : decode cX11_wrong 0 = .ok (.aload_n 0, 1) := by decide +kernel
theorem dX11_wrong_1 : decode cX11_wrong 1 = .ok (.getfield 82, 3) := by decide +kernel
theorem dX11_wrong_4 : decode cX11_wrong 4 = .ok (.ireturn, 1) := by decide +kernel
theorem dX11_end_0 : decode cX11_end 0 = .ok (.aload_n 0, 1) := by decide +kernel
theorem dX11_end_1 : decode cX11_end 1 = .ok (.getfield 86, 3) := by decide +kernel
theorem dX11_end_4 : decode cX11_end 4 = .ok (.ireturn, 1) := by decide +kernel
theorem dX11_line_0 : decode cX11_line 0 = .ok (.aload_n 0, 1) := by decide +kernel
theorem dX11_line_1 : decode cX11_line 1 = .ok (.iload_n 1, 1) := by decide +kernel
theorem dX11_line_2 : decode cX11_line 2 = .ok (.invokevirtual 121, 3) := by decide +kernel
theorem dX11_line_5 : decode cX11_line 5 = .ok (.astore_n 3, 1) := by decide +kernel
theorem dX11_line_6 : decode cX11_line 6 = .ok (.aload_n 3, 1) := by decide +kernel
theorem dX11_line_7 : decode cX11_line 7 = .ok (.ifnonnull 7, 3) := by decide +kernel
theorem dX11_line_10 : decode cX11_line 10 = .ok (.iconst (-1), 1) := by decide +kernel
theorem dX11_line_11 : decode cX11_line 11 = .ok (.goto 8, 3) := by decide +kernel
theorem dX11_line_14 : decode cX11_line 14 = .ok (.aload_n 3, 1) := by decide +kernel
theorem dX11_line_15 : decode cX11_line 15 = .ok (.iload_n 2, 1) := by decide +kernel
theorem dX11_line_16 : decode cX11_line 16 = .ok (.invokevirtual 125, 3) := by decide +kernel
theorem dX11_line_19 : decode cX11_line 19 = .ok (.ireturn, 1) := by decide +kernel
theorem dX11_side_0 : decode cX11_side 0 = .ok (.iload_n 1, 1) := by decide +kernel
theorem dX11_side_1 : decode cX11_side 1 = .ok (.ifCond .lt 9, 3) := by decide +kernel
theorem dX11_side_4 : decode cX11_side 4 = .ok (.iload_n 1, 1) := by decide +kernel
theorem dX11_side_5 : decode cX11_side 5 = .ok (.bipush 8, 2) := by decide +kernel
theorem dX11_side_7 : decode cX11_side 7 = .ok (.if_icmp .lt 7, 3) := by decide +kernel
theorem dX11_side_10 : decode cX11_side 10 = .ok (.iconst (-1), 1) := by decide +kernel
theorem dX11_side_11 : decode cX11_side 11 = .ok (.goto 11, 3) := by decide +kernel
theorem dX11_side_14 : decode cX11_side 14 = .ok (.aload_n 0, 1) := by decide +kernel
theorem dX11_side_15 : decode cX11_side 15 = .ok (.getfield 32, 3) := by decide +kernel
theorem dX11_side_18 : decode cX11_side 18 = .ok (.iload_n 1, 1) := by decide +kernel
theorem dX11_side_19 : decode cX11_side 19 = .ok (.invokevirtual 129, 3) := by decide +kernel
theorem dX11_side_22 : decode cX11_side 22 = .ok (.ireturn, 1) := by decide +kernel
theorem dX11_holds_0 : decode cX11_holds 0 = .ok (.aload_n 0, 1) := by decide +kernel
theorem dX11_holds_1 : decode cX11_holds 1 = .ok (.iload_n 1, 1) := by decide +kernel
theorem dX11_holds_2 : decode cX11_holds 2 = .ok (.invokevirtual 121, 3) := by decide +kernel
theorem dX11_holds_5 : decode cX11_holds 5 = .ok (.astore_n 3, 1) := by decide +kernel
theorem dX11_holds_6 : decode cX11_holds 6 = .ok (.aload_n 3, 1) := by decide +kernel
theorem dX11_holds_7 : decode cX11_holds 7 = .ok (.ifnull 10, 3) := by decide +kernel
theorem dX11_holds_10 : decode cX11_holds 10 = .ok (.iload_n 2, 1) := by decide +kernel
theorem dX11_holds_11 : decode cX11_holds 11 = .ok (.invokestatic 132, 3) := by decide +kernel
theorem dX11_holds_14 : decode cX11_holds 14 = .ok (.ifCond .ne 5, 3) := by decide +kernel
theorem dX11_holds_17 : decode cX11_holds 17 = .ok (.iconst (-1), 1) := by decide +kernel
theorem dX11_holds_18 : decode cX11_holds 18 = .ok (.ireturn, 1) := by decide +kernel
theorem dX11_holds_19 : decode cX11_holds 19 = .ok (.aload_n 3, 1) := by decide +kernel
theorem dX11_holds_20 : decode cX11_holds 20 = .ok (.iload_n 2, 1) := by decide +kernel
theorem dX11_holds_21 : decode cX11_holds 21 = .ok (.invokevirtual 136, 3) := by decide +kernel
theorem dX11_holds_24 : decode cX11_holds 24 = .ok (.ifCond .eq 7, 3) := by decide +kernel
theorem dX11_holds_27 : decode cX11_holds 27 = .ok (.iconst 1, 1) := by decide +kernel
theorem dX11_holds_28 : decode cX11_holds 28 = .ok (.goto 4, 3) := by decide +kernel
theorem dX11_holds_31 : decode cX11_holds 31 = .ok (.iconst 0, 1) := by decide +kernel
theorem dX11_holds_32 : decode cX11_holds 32 = .ok (.ireturn, 1) := by decide +kernel
theorem dX11_worlds_0 : decode cX11_worlds 0 = .ok (.iload_n 1, 1) := by decide +kernel
theorem dX11_worlds_1 : decode cX11_worlds 1 = .ok (.tableswitch 67 0 2 #[27, 38, 49], 27) := by decide +kernel
theorem dX11_worlds_28 : decode cX11_worlds 28 = .ok (.aload_n 0, 1) := by decide +kernel
theorem dX11_worlds_29 : decode cX11_worlds 29 = .ok (.getfield 32, 3) := by decide +kernel
theorem dX11_worlds_32 : decode cX11_worlds 32 = .ok (.getfield 139, 3) := by decide +kernel
theorem dX11_worlds_35 : decode cX11_worlds 35 = .ok (.invokevirtual 142, 3) := by decide +kernel
theorem dX11_worlds_38 : decode cX11_worlds 38 = .ok (.ireturn, 1) := by decide +kernel
theorem dX11_worlds_39 : decode cX11_worlds 39 = .ok (.aload_n 0, 1) := by decide +kernel
theorem dX11_worlds_40 : decode cX11_worlds 40 = .ok (.getfield 32, 3) := by decide +kernel
theorem dX11_worlds_43 : decode cX11_worlds 43 = .ok (.getfield 143, 3) := by decide +kernel
theorem dX11_worlds_46 : decode cX11_worlds 46 = .ok (.invokevirtual 142, 3) := by decide +kernel
theorem dX11_worlds_49 : decode cX11_worlds 49 = .ok (.ireturn, 1) := by decide +kernel
theorem dX11_worlds_50 : decode cX11_worlds 50 = .ok (.aload_n 0, 1) := by decide +kernel
theorem dX11_worlds_51 : decode cX11_worlds 51 = .ok (.getfield 32, 3) := by decide +kernel
theorem dX11_worlds_54 : decode cX11_worlds 54 = .ok (.getfield 139, 3) := by decide +kernel
theorem dX11_worlds_57 : decode cX11_worlds 57 = .ok (.aload_n 0, 1) := by decide +kernel
theorem dX11_worlds_58 : decode cX11_worlds 58 = .ok (.getfield 32, 3) := by decide +kernel
theorem dX11_worlds_61 : decode cX11_worlds 61 = .ok (.getfield 143, 3) := by decide +kernel
theorem dX11_worlds_64 : decode cX11_worlds 64 = .ok (.invokevirtual 146, 3) := by decide +kernel
theorem dX11_worlds_67 : decode cX11_worlds 67 = .ok (.ireturn, 1) := by decide +kernel
theorem dX11_worlds_68 : decode cX11_worlds 68 = .ok (.iconst (-1), 1) := by decide +kernel
theorem dX11_worlds_69 : decode cX11_worlds 69 = .ok (.ireturn, 1) := by decide +kernel
theorem dX11_says_0 : decode cX11_says 0 = .ok (.aload_n 0, 1) := by decide +kernel
theorem dX11_says_1 : decode cX11_says 1 = .ok (.iload_n 2, 1) := by decide +kernel
theorem dX11_says_2 : decode cX11_says 2 = .ok (.invokevirtual 121, 3) := by decide +kernel
theorem dX11_says_5 : decode cX11_says 5 = .ok (.astore 4, 2) := by decide +kernel
theorem dX11_says_7 : decode cX11_says 7 = .ok (.iload_n 1, 1) := by decide +kernel
theorem dX11_says_8 : decode cX11_says 8 = .ok (.invokestatic 150, 3) := by decide +kernel
theorem dX11_says_11 : decode cX11_says 11 = .ok (.ifCond .eq 15, 3) := by decide +kernel
theorem dX11_says_14 : decode cX11_says 14 = .ok (.aload 4, 2) := by decide +kernel
theorem dX11_says_16 : decode cX11_says 16 = .ok (.ifnull 10, 3) := by decide +kernel
theorem dX11_says_19 : decode cX11_says 19 = .ok (.iload_n 3, 1) := by decide +kernel
theorem dX11_says_20 : decode cX11_says 20 = .ok (.invokestatic 132, 3) := by decide +kernel
theorem dX11_says_23 : decode cX11_says 23 = .ok (.ifCond .ne 5, 3) := by decide +kernel
theorem dX11_says_26 : decode cX11_says 26 = .ok (.iconst (-1), 1) := by decide +kernel
theorem dX11_says_27 : decode cX11_says 27 = .ok (.ireturn, 1) := by decide +kernel
theorem dX11_says_28 : decode cX11_says 28 = .ok (.aload 4, 2) := by decide +kernel
theorem dX11_says_30 : decode cX11_says 30 = .ok (.iload_n 1, 1) := by decide +kernel
theorem dX11_says_31 : decode cX11_says 31 = .ok (.invokevirtual 153, 3) := by decide +kernel
theorem dX11_says_34 : decode cX11_says 34 = .ok (.iload_n 3, 1) := by decide +kernel
theorem dX11_says_35 : decode cX11_says 35 = .ok (.invokevirtual 157, 3) := by decide +kernel
theorem dX11_says_38 : decode cX11_says 38 = .ok (.ifCond .eq 7, 3) := by decide +kernel
theorem dX11_says_41 : decode cX11_says 41 = .ok (.iconst 1, 1) := by decide +kernel
theorem dX11_says_42 : decode cX11_says 42 = .ok (.goto 4, 3) := by decide +kernel
theorem dX11_says_45 : decode cX11_says 45 = .ok (.iconst 0, 1) := by decide +kernel
theorem dX11_says_46 : decode cX11_says 46 = .ok (.ireturn, 1) := by decide +kernel
theorem dX11_saying_0 : decode cX11_saying 0 = .ok (.aload_n 0, 1) := by decide +kernel
theorem dX11_saying_1 : decode cX11_saying 1 = .ok (.aload_n 0, 1) := by decide +kernel
theorem dX11_saying_2 : decode cX11_saying 2 = .ok (.getfield 86, 3) := by decide +kernel
theorem dX11_saying_5 : decode cX11_saying 5 = .ok (.invokevirtual 121, 3) := by decide +kernel
theorem dX11_saying_8 : decode cX11_saying 8 = .ok (.astore_n 3, 1) := by decide +kernel
theorem dX11_saying_9 : decode cX11_saying 9 = .ok (.iload_n 1, 1) := by decide +kernel
theorem dX11_saying_10 : decode cX11_saying 10 = .ok (.invokestatic 150, 3) := by decide +kernel
theorem dX11_saying_13 : decode cX11_saying 13 = .ok (.ifCond .eq 16, 3) := by decide +kernel
theorem dX11_saying_16 : decode cX11_saying 16 = .ok (.iload_n 2, 1) := by decide +kernel
theorem dX11_saying_17 : decode cX11_saying 17 = .ok (.ifCond .lt 12, 3) := by decide +kernel
theorem dX11_saying_20 : decode cX11_saying 20 = .ok (.iload_n 2, 1) := by decide +kernel
theorem dX11_saying_21 : decode cX11_saying 21 = .ok (.iconst 4, 1) := by decide +kernel
theorem dX11_saying_22 : decode cX11_saying 22 = .ok (.if_icmp .ge 7, 3) := by decide +kernel
theorem dX11_saying_25 : decode cX11_saying 25 = .ok (.aload_n 3, 1) := by decide +kernel
theorem dX11_saying_26 : decode cX11_saying 26 = .ok (.ifnonnull 5, 3) := by decide +kernel
theorem dX11_saying_29 : decode cX11_saying 29 = .ok (.lconst 0, 1) := by decide +kernel
theorem dX11_saying_30 : decode cX11_saying 30 = .ok (.lreturn, 1) := by decide +kernel
theorem dX11_saying_31 : decode cX11_saying 31 = .ok (.aload_n 3, 1) := by decide +kernel
theorem dX11_saying_32 : decode cX11_saying 32 = .ok (.iload_n 1, 1) := by decide +kernel
theorem dX11_saying_33 : decode cX11_saying 33 = .ok (.invokevirtual 153, 3) := by decide +kernel
theorem dX11_saying_36 : decode cX11_saying 36 = .ok (.iload_n 2, 1) := by decide +kernel
theorem dX11_saying_37 : decode cX11_saying 37 = .ok (.invokevirtual 160, 3) := by decide +kernel
theorem dX11_saying_40 : decode cX11_saying 40 = .ok (.lreturn, 1) := by decide +kernel
theorem dX11_between_0 : decode cX11_between 0 = .ok (.iload_n 1, 1) := by decide +kernel
theorem dX11_between_1 : decode cX11_between 1 = .ok (.invokestatic 150, 3) := by decide +kernel
theorem dX11_between_4 : decode cX11_between 4 = .ok (.ifCond .ne 5, 3) := by decide +kernel
theorem dX11_between_7 : decode cX11_between 7 = .ok (.iconst (-1), 1) := by decide +kernel
theorem dX11_between_8 : decode cX11_between 8 = .ok (.ireturn, 1) := by decide +kernel
theorem dX11_between_9 : decode cX11_between 9 = .ok (.aload_n 0, 1) := by decide +kernel
theorem dX11_between_10 : decode cX11_between 10 = .ok (.aload_n 0, 1) := by decide +kernel
theorem dX11_between_11 : decode cX11_between 11 = .ok (.getfield 86, 3) := by decide +kernel
theorem dX11_between_14 : decode cX11_between 14 = .ok (.invokevirtual 121, 3) := by decide +kernel
theorem dX11_between_17 : decode cX11_between 17 = .ok (.astore_n 2, 1) := by decide +kernel
theorem dX11_between_18 : decode cX11_between 18 = .ok (.aload_n 2, 1) := by decide +kernel
theorem dX11_between_19 : decode cX11_between 19 = .ok (.ifnonnull 8, 3) := by decide +kernel
theorem dX11_between_22 : decode cX11_between 22 = .ok (.bipush (-2), 2) := by decide +kernel
theorem dX11_between_24 : decode cX11_between 24 = .ok (.goto 15, 3) := by decide +kernel
theorem dX11_between_27 : decode cX11_between 27 = .ok (.aload_n 0, 1) := by decide +kernel
theorem dX11_between_28 : decode cX11_between 28 = .ok (.getfield 32, 3) := by decide +kernel
theorem dX11_between_31 : decode cX11_between 31 = .ok (.aload_n 2, 1) := by decide +kernel
theorem dX11_between_32 : decode cX11_between 32 = .ok (.iload_n 1, 1) := by decide +kernel
theorem dX11_between_33 : decode cX11_between 33 = .ok (.invokevirtual 153, 3) := by decide +kernel
theorem dX11_between_36 : decode cX11_between 36 = .ok (.invokevirtual 164, 3) := by decide +kernel
theorem dX11_between_39 : decode cX11_between 39 = .ok (.ireturn, 1) := by decide +kernel
theorem dX11_looks_0 : decode cX11_looks 0 = .ok (.iload_n 1, 1) := by decide +kernel
theorem dX11_looks_1 : decode cX11_looks 1 = .ok (.ifCond .lt 8, 3) := by decide +kernel
theorem dX11_looks_4 : decode cX11_looks 4 = .ok (.iload_n 1, 1) := by decide +kernel
theorem dX11_looks_5 : decode cX11_looks 5 = .ok (.iconst 5, 1) := by decide +kernel
theorem dX11_looks_6 : decode cX11_looks 6 = .ok (.if_icmp .le 5, 3) := by decide +kernel
theorem dX11_looks_9 : decode cX11_looks 9 = .ok (.iconst (-1), 1) := by decide +kernel
theorem dX11_looks_10 : decode cX11_looks 10 = .ok (.ireturn, 1) := by decide +kernel
theorem dX11_looks_11 : decode cX11_looks 11 = .ok (.aload_n 0, 1) := by decide +kernel
theorem dX11_looks_12 : decode cX11_looks 12 = .ok (.iload_n 1, 1) := by decide +kernel
theorem dX11_looks_13 : decode cX11_looks 13 = .ok (.invokevirtual 167, 3) := by decide +kernel
theorem dX11_looks_16 : decode cX11_looks 16 = .ok (.astore_n 2, 1) := by decide +kernel
theorem dX11_looks_17 : decode cX11_looks 17 = .ok (.aload_n 2, 1) := by decide +kernel
theorem dX11_looks_18 : decode cX11_looks 18 = .ok (.ifnonnull 8, 3) := by decide +kernel
theorem dX11_looks_21 : decode cX11_looks 21 = .ok (.bipush (-2), 2) := by decide +kernel
theorem dX11_looks_23 : decode cX11_looks 23 = .ok (.goto 7, 3) := by decide +kernel
theorem dX11_looks_26 : decode cX11_looks 26 = .ok (.aload_n 2, 1) := by decide +kernel
theorem dX11_looks_27 : decode cX11_looks 27 = .ok (.invokevirtual 170, 3) := by decide +kernel
theorem dX11_looks_30 : decode cX11_looks 30 = .ok (.ireturn, 1) := by decide +kernel
theorem dX11_compare_0 : decode cX11_compare 0 = .ok (.iload_n 1, 1) := by decide +kernel
theorem dX11_compare_1 : decode cX11_compare 1 = .ok (.ifCond .lt 17, 3) := by decide +kernel
theorem dX11_compare_4 : decode cX11_compare 4 = .ok (.iload_n 1, 1) := by decide +kernel
theorem dX11_compare_5 : decode cX11_compare 5 = .ok (.iconst 5, 1) := by decide +kernel
theorem dX11_compare_6 : decode cX11_compare 6 = .ok (.if_icmp .gt 12, 3) := by decide +kernel
theorem dX11_compare_9 : decode cX11_compare 9 = .ok (.iload_n 2, 1) := by decide +kernel
theorem dX11_compare_10 : decode cX11_compare 10 = .ok (.ifCond .lt 8, 3) := by decide +kernel
theorem dX11_compare_13 : decode cX11_compare 13 = .ok (.iload_n 2, 1) := by decide +kernel
theorem dX11_compare_14 : decode cX11_compare 14 = .ok (.iconst 5, 1) := by decide +kernel
theorem dX11_compare_15 : decode cX11_compare 15 = .ok (.if_icmp .le 5, 3) := by decide +kernel
theorem dX11_compare_18 : decode cX11_compare 18 = .ok (.iconst (-1), 1) := by decide +kernel
theorem dX11_compare_19 : decode cX11_compare 19 = .ok (.ireturn, 1) := by decide +kernel
theorem dX11_compare_20 : decode cX11_compare 20 = .ok (.aload_n 0, 1) := by decide +kernel
theorem dX11_compare_21 : decode cX11_compare 21 = .ok (.iload_n 1, 1) := by decide +kernel
theorem dX11_compare_22 : decode cX11_compare 22 = .ok (.invokevirtual 167, 3) := by decide +kernel
theorem dX11_compare_25 : decode cX11_compare 25 = .ok (.astore_n 3, 1) := by decide +kernel
theorem dX11_compare_26 : decode cX11_compare 26 = .ok (.aload_n 0, 1) := by decide +kernel
theorem dX11_compare_27 : decode cX11_compare 27 = .ok (.iload_n 2, 1) := by decide +kernel
theorem dX11_compare_28 : decode cX11_compare 28 = .ok (.invokevirtual 167, 3) := by decide +kernel
theorem dX11_compare_31 : decode cX11_compare 31 = .ok (.astore 4, 2) := by decide +kernel
theorem dX11_compare_33 : decode cX11_compare 33 = .ok (.aload_n 3, 1) := by decide +kernel
theorem dX11_compare_34 : decode cX11_compare 34 = .ok (.ifnull 8, 3) := by decide +kernel
theorem dX11_compare_37 : decode cX11_compare 37 = .ok (.aload 4, 2) := by decide +kernel
theorem dX11_compare_39 : decode cX11_compare 39 = .ok (.ifnonnull 6, 3) := by decide +kernel
theorem dX11_compare_42 : decode cX11_compare 42 = .ok (.bipush (-2), 2) := by decide +kernel
theorem dX11_compare_44 : decode cX11_compare 44 = .ok (.ireturn, 1) := by decide +kernel
theorem dX11_compare_45 : decode cX11_compare 45 = .ok (.aload_n 3, 1) := by decide +kernel
theorem dX11_compare_46 : decode cX11_compare 46 = .ok (.aload 4, 2) := by decide +kernel
theorem dX11_compare_48 : decode cX11_compare 48 = .ok (.invokevirtual 173, 3) := by decide +kernel
theorem dX11_compare_51 : decode cX11_compare 51 = .ok (.istore 5, 2) := by decide +kernel
theorem dX11_compare_53 : decode cX11_compare 53 = .ok (.aload 4, 2) := by decide +kernel
theorem dX11_compare_55 : decode cX11_compare 55 = .ok (.aload_n 3, 1) := by decide +kernel
theorem dX11_compare_56 : decode cX11_compare 56 = .ok (.invokevirtual 173, 3) := by decide +kernel
theorem dX11_compare_59 : decode cX11_compare 59 = .ok (.istore 6, 2) := by decide +kernel
theorem dX11_compare_61 : decode cX11_compare 61 = .ok (.iload 5, 2) := by decide +kernel
theorem dX11_compare_63 : decode cX11_compare 63 = .ok (.ifCond .eq 14, 3) := by decide +kernel
theorem dX11_compare_66 : decode cX11_compare 66 = .ok (.iload 6, 2) := by decide +kernel
theorem dX11_compare_68 : decode cX11_compare 68 = .ok (.ifCond .eq 7, 3) := by decide +kernel
theorem dX11_compare_71 : decode cX11_compare 71 = .ok (.iconst 0, 1) := by decide +kernel
theorem dX11_compare_72 : decode cX11_compare 72 = .ok (.goto 4, 3) := by decide +kernel
theorem dX11_compare_75 : decode cX11_compare 75 = .ok (.iconst 1, 1) := by decide +kernel
theorem dX11_compare_76 : decode cX11_compare 76 = .ok (.ireturn, 1) := by decide +kernel
theorem dX11_compare_77 : decode cX11_compare 77 = .ok (.iload 6, 2) := by decide +kernel
theorem dX11_compare_79 : decode cX11_compare 79 = .ok (.ifCond .eq 7, 3) := by decide +kernel
theorem dX11_compare_82 : decode cX11_compare 82 = .ok (.iconst 2, 1) := by decide +kernel
theorem dX11_compare_83 : decode cX11_compare 83 = .ok (.goto 4, 3) := by decide +kernel
theorem dX11_compare_86 : decode cX11_compare 86 = .ok (.iconst 3, 1) := by decide +kernel
theorem dX11_compare_87 : decode cX11_compare 87 = .ok (.ireturn, 1) := by decide +kernel
theorem dX11_bounds_0 : decode cX11_bounds 0 = .ok (.iload_n 1, 1) := by decide +kernel
theorem dX11_bounds_1 : decode cX11_bounds 1 = .ok (.tableswitch 57 0 2 #[27, 38, 49], 27) := by decide +kernel
theorem dX11_bounds_28 : decode cX11_bounds 28 = .ok (.aload_n 0, 1) := by decide +kernel
theorem dX11_bounds_29 : decode cX11_bounds 29 = .ok (.getfield 32, 3) := by decide +kernel
theorem dX11_bounds_32 : decode cX11_bounds 32 = .ok (.getfield 177, 3) := by decide +kernel
theorem dX11_bounds_35 : decode cX11_bounds 35 = .ok (.invokevirtual 142, 3) := by decide +kernel
theorem dX11_bounds_38 : decode cX11_bounds 38 = .ok (.ireturn, 1) := by decide +kernel
theorem dX11_bounds_39 : decode cX11_bounds 39 = .ok (.aload_n 0, 1) := by decide +kernel
theorem dX11_bounds_40 : decode cX11_bounds 40 = .ok (.getfield 32, 3) := by decide +kernel
theorem dX11_bounds_43 : decode cX11_bounds 43 = .ok (.getfield 180, 3) := by decide +kernel
theorem dX11_bounds_46 : decode cX11_bounds 46 = .ok (.invokevirtual 142, 3) := by decide +kernel
theorem dX11_bounds_49 : decode cX11_bounds 49 = .ok (.ireturn, 1) := by decide +kernel
theorem dX11_bounds_50 : decode cX11_bounds 50 = .ok (.aload_n 0, 1) := by decide +kernel
theorem dX11_bounds_51 : decode cX11_bounds 51 = .ok (.getfield 32, 3) := by decide +kernel
theorem dX11_bounds_54 : decode cX11_bounds 54 = .ok (.invokevirtual 183, 3) := by decide +kernel
theorem dX11_bounds_57 : decode cX11_bounds 57 = .ok (.ireturn, 1) := by decide +kernel
theorem dX11_bounds_58 : decode cX11_bounds 58 = .ok (.iconst (-1), 1) := by decide +kernel
theorem dX11_bounds_59 : decode cX11_bounds 59 = .ok (.ireturn, 1) := by decide +kernel
theorem dX11_fewest_0 : decode cX11_fewest 0 = .ok (.iload_n 1, 1) := by decide +kernel
theorem dX11_fewest_1 : decode cX11_fewest 1 = .ok (.ifCond .lt 8, 3) := by decide +kernel
theorem dX11_fewest_4 : decode cX11_fewest 4 = .ok (.iload_n 1, 1) := by decide +kernel
theorem dX11_fewest_5 : decode cX11_fewest 5 = .ok (.iconst 1, 1) := by decide +kernel
theorem dX11_fewest_6 : decode cX11_fewest 6 = .ok (.if_icmp .le 7, 3) := by decide +kernel
theorem dX11_fewest_9 : decode cX11_fewest 9 = .ok (.iconst (-1), 1) := by decide +kernel
theorem dX11_fewest_10 : decode cX11_fewest 10 = .ok (.goto 14, 3) := by decide +kernel
theorem dX11_fewest_13 : decode cX11_fewest 13 = .ok (.iload_n 1, 1) := by decide +kernel
theorem dX11_fewest_14 : decode cX11_fewest 14 = .ok (.aload_n 0, 1) := by decide +kernel
theorem dX11_fewest_15 : decode cX11_fewest 15 = .ok (.getfield 32, 3) := by decide +kernel
theorem dX11_fewest_18 : decode cX11_fewest 18 = .ok (.invokevirtual 186, 3) := by decide +kernel
theorem dX11_fewest_21 : decode cX11_fewest 21 = .ok (.invokestatic 189, 3) := by decide +kernel
theorem dX11_fewest_24 : decode cX11_fewest 24 = .ok (.ireturn, 1) := by decide +kernel
theorem dX11_check_0 : decode cX11_check 0 = .ok (.aload_n 0, 1) := by decide +kernel
theorem dX11_check_1 : decode cX11_check 1 = .ok (.getfield 32, 3) := by decide +kernel
theorem dX11_check_4 : decode cX11_check 4 = .ok (.aload_n 0, 1) := by decide +kernel
theorem dX11_check_5 : decode cX11_check 5 = .ok (.getfield 46, 3) := by decide +kernel
theorem dX11_check_8 : decode cX11_check 8 = .ok (.invokevirtual 164, 3) := by decide +kernel
theorem dX11_check_11 : decode cX11_check 11 = .ok (.ireturn, 1) := by decide +kernel
theorem dX11_trace_0 : decode cX11_trace 0 = .ok (.aload_n 0, 1) := by decide +kernel
theorem dX11_trace_1 : decode cX11_trace 1 = .ok (.getfield 53, 3) := by decide +kernel
theorem dX11_trace_4 : decode cX11_trace 4 = .ok (.invokevirtual 222, 3) := by decide +kernel
theorem dX11_trace_7 : decode cX11_trace 7 = .ok (.lreturn, 1) := by decide +kernel
theorem dX11_labour_0 : decode cX11_labour 0 = .ok (.aload_n 0, 1) := by decide +kernel
theorem dX11_labour_1 : decode cX11_labour 1 = .ok (.iload_n 1, 1) := by decide +kernel
theorem dX11_labour_2 : decode cX11_labour 2 = .ok (.invokevirtual 203, 3) := by decide +kernel
theorem dX11_labour_5 : decode cX11_labour 5 = .ok (.astore_n 3, 1) := by decide +kernel
theorem dX11_labour_6 : decode cX11_labour 6 = .ok (.aload_n 0, 1) := by decide +kernel
theorem dX11_labour_7 : decode cX11_labour 7 = .ok (.iload_n 2, 1) := by decide +kernel
theorem dX11_labour_8 : decode cX11_labour 8 = .ok (.invokevirtual 121, 3) := by decide +kernel
theorem dX11_labour_11 : decode cX11_labour 11 = .ok (.astore 4, 2) := by decide +kernel
theorem dX11_labour_13 : decode cX11_labour 13 = .ok (.aload_n 3, 1) := by decide +kernel
theorem dX11_labour_14 : decode cX11_labour 14 = .ok (.ifnull 8, 3) := by decide +kernel
theorem dX11_labour_17 : decode cX11_labour 17 = .ok (.aload 4, 2) := by decide +kernel
theorem dX11_labour_19 : decode cX11_labour 19 = .ok (.ifnonnull 7, 3) := by decide +kernel
theorem dX11_labour_22 : decode cX11_labour 22 = .ok (.iconst (-1), 1) := by decide +kernel
theorem dX11_labour_23 : decode cX11_labour 23 = .ok (.goto 13, 3) := by decide +kernel
theorem dX11_labour_26 : decode cX11_labour 26 = .ok (.aload_n 3, 1) := by decide +kernel
theorem dX11_labour_27 : decode cX11_labour 27 = .ok (.aload 4, 2) := by decide +kernel
theorem dX11_labour_29 : decode cX11_labour 29 = .ok (.aload_n 0, 1) := by decide +kernel
theorem dX11_labour_30 : decode cX11_labour 30 = .ok (.getfield 53, 3) := by decide +kernel
theorem dX11_labour_33 : decode cX11_labour 33 = .ok (.invokevirtual 207, 3) := by decide +kernel
theorem dX11_labour_36 : decode cX11_labour 36 = .ok (.ireturn, 1) := by decide +kernel
theorem dX11_tell_0 : decode cX11_tell 0 = .ok (.iload_n 1, 1) := by decide +kernel
theorem dX11_tell_1 : decode cX11_tell 1 = .ok (.invokestatic 132, 3) := by decide +kernel
theorem dX11_tell_4 : decode cX11_tell 4 = .ok (.ifCond .eq 12, 3) := by decide +kernel
theorem dX11_tell_7 : decode cX11_tell 7 = .ok (.iload_n 2, 1) := by decide +kernel
theorem dX11_tell_8 : decode cX11_tell 8 = .ok (.ifCond .lt 8, 3) := by decide +kernel
theorem dX11_tell_11 : decode cX11_tell 11 = .ok (.iload_n 2, 1) := by decide +kernel
theorem dX11_tell_12 : decode cX11_tell 12 = .ok (.iconst 1, 1) := by decide +kernel
theorem dX11_tell_13 : decode cX11_tell 13 = .ok (.if_icmp .le 5, 3) := by decide +kernel
theorem dX11_tell_16 : decode cX11_tell 16 = .ok (.iconst (-1), 1) := by decide +kernel
theorem dX11_tell_17 : decode cX11_tell 17 = .ok (.ireturn, 1) := by decide +kernel
theorem dX11_tell_18 : decode cX11_tell 18 = .ok (.aload_n 0, 1) := by decide +kernel
theorem dX11_tell_19 : decode cX11_tell 19 = .ok (.getfield 46, 3) := by decide +kernel
theorem dX11_tell_22 : decode cX11_tell 22 = .ok (.iload_n 1, 1) := by decide +kernel
theorem dX11_tell_23 : decode cX11_tell 23 = .ok (.invokevirtual 157, 3) := by decide +kernel
theorem dX11_tell_26 : decode cX11_tell 26 = .ok (.ifCond .eq 7, 3) := by decide +kernel
theorem dX11_tell_29 : decode cX11_tell 29 = .ok (.iconst 1, 1) := by decide +kernel
theorem dX11_tell_30 : decode cX11_tell 30 = .ok (.goto 4, 3) := by decide +kernel
theorem dX11_tell_33 : decode cX11_tell 33 = .ok (.iconst 0, 1) := by decide +kernel
theorem dX11_tell_34 : decode cX11_tell 34 = .ok (.istore_n 3, 1) := by decide +kernel
theorem dX11_tell_35 : decode cX11_tell 35 = .ok (.aload_n 0, 1) := by decide +kernel
theorem dX11_tell_36 : decode cX11_tell 36 = .ok (.getfield 46, 3) := by decide +kernel
theorem dX11_tell_39 : decode cX11_tell 39 = .ok (.iload_n 1, 1) := by decide +kernel
theorem dX11_tell_40 : decode cX11_tell 40 = .ok (.iload_n 2, 1) := by decide +kernel
theorem dX11_tell_41 : decode cX11_tell 41 = .ok (.iconst 1, 1) := by decide +kernel
theorem dX11_tell_42 : decode cX11_tell 42 = .ok (.if_icmp .ne 7, 3) := by decide +kernel
theorem dX11_tell_45 : decode cX11_tell 45 = .ok (.iconst 1, 1) := by decide +kernel
theorem dX11_tell_46 : decode cX11_tell 46 = .ok (.goto 4, 3) := by decide +kernel
theorem dX11_tell_49 : decode cX11_tell 49 = .ok (.iconst 0, 1) := by decide +kernel
theorem dX11_tell_50 : decode cX11_tell 50 = .ok (.invokevirtual 193, 3) := by decide +kernel
theorem dX11_tell_53 : decode cX11_tell 53 = .ok (.iload_n 3, 1) := by decide +kernel
theorem dX11_tell_54 : decode cX11_tell 54 = .ok (.ireturn, 1) := by decide +kernel
abbrev c2 (cc lc sc wr el : Int32) : va_E := .inr (11, [.ref 3, .ref 5, .ref 12, .ref 13, .ref 24, .ref 93, .ref 95, .ref 96, .ref 97, .ref 98, .ref 99, .int cc, .int lc, .int sc, .int wr, .int el])
def KB (h h' : ev_H) : Prop := ∀ k, ¬ RB k → h' k = h k
set_option maxRecDepth 20000 in
theorem s_X11_lineAt {xs : Nat → Int32} {L d : Nat} {h : ev_H} (hS : SH h) {cc lc sc wr el : Int32} (h2 : h 2 = c2 cc lc sc wr el)  {i : Int32} : EV xs L (d + 0) 0 0 M_X11_lineAt 434 h 0 [some (.ref 2), some (.int i)] [] (fun sz' h' r => sz' = 434 ∧ h' = h ∧ (r = [.null] ∨ ∃ n : Nat, n < 40 ∧ r = [.ref (100 + 8 * n)])) := by
  refine r_iload_n rfl dX11_lineAt_0 rfl ?_
  refine r_if_lt (tgt := 21) rfl rfl dX11_lineAt_1 (fun c51 => ?_) (fun c51 => ?_)
  · refine r_null rfl dX11_lineAt_21 ?_
    refine r_goto (pc' := 31) rfl dX11_lineAt_22 ?_
    exact r_ret dX11_lineAt_31 (rt_n rfl) ⟨rfl, rfl, Or.inl rfl⟩
  · refine r_iload_n rfl dX11_lineAt_4 rfl ?_
    refine r_aload_n rfl dX11_lineAt_5 rfl ?_
    refine r_getv 12 rfl dX11_lineAt_6 (show 2 ≤ 2 ∧ 2 < 434 by decide) h2 fl_X11_118 rfl ?_
    refine r_icmp_ge (tgt := 21) rfl rfl dX11_lineAt_9 (fun c52 => ?_) (fun c52 => ?_)
    · refine r_null rfl dX11_lineAt_21 ?_
      refine r_goto (pc' := 31) rfl dX11_lineAt_22 ?_
      exact r_ret dX11_lineAt_31 (rt_n rfl) ⟨rfl, rfl, Or.inl rfl⟩
    · refine r_iload_n rfl dX11_lineAt_12 rfl ?_
      refine r_aload_n rfl dX11_lineAt_13 rfl ?_
      refine r_getv 2 rfl dX11_lineAt_14 (show 2 ≤ 2 ∧ 2 < 434 by decide) h2 fl_X11_25 rfl ?_
      refine r_alen (v := 40) rfl dX11_lineAt_17 (show 2 ≤ 12 ∧ 12 < 434 by decide).1 (show 2 ≤ 12 ∧ 12 < 434 by decide).2 hS.o12 (by decide) (by decide) ?_
      refine r_icmp_lt (tgt := 25) rfl rfl dX11_lineAt_18 (fun c54 => ?_) (fun c54 => ?_)
      · refine r_aload_n rfl dX11_lineAt_25 rfl ?_
        refine r_getv 2 rfl dX11_lineAt_26 (show 2 ≤ 2 ∧ 2 < 434 by decide) h2 fl_X11_25 rfl ?_
        refine r_iload_n rfl dX11_lineAt_29 rfl ?_
        refine r_aald (jn := i.toNatClampNeg) (v := .ref (100 + 8 * i.toNatClampNeg)) rfl dX11_lineAt_30 (show 2 ≤ 12 ∧ 12 < 434 by decide).1 (show 2 ≤ 12 ∧ 12 < 434 by decide).2 hS.o12 (by decide) (vpi2 (m := 40) (by decide) c51 c54) rfl (by show va_rf (if _ < _ then _ else _) = _; rw [if_pos (vp_in_lt (vpi2 (m := 40) (by decide) c51 c54))]; rfl) ?_
        exact r_ret dX11_lineAt_31 (rt_a rfl) ⟨rfl, rfl, Or.inr ⟨_, (vp_in_lt (vpi2 (m := 40) (by decide) c51 c54)), rfl⟩⟩
      · refine r_null rfl dX11_lineAt_21 ?_
        refine r_goto (pc' := 31) rfl dX11_lineAt_22 ?_
        exact r_ret dX11_lineAt_31 (rt_n rfl) ⟨rfl, rfl, Or.inl rfl⟩
set_option maxRecDepth 20000 in
theorem s_X11_setOf {xs : Nat → Int32} {L d : Nat} {h : ev_H} (hS : SH h) {cc lc sc wr el : Int32} (h2 : h 2 = c2 cc lc sc wr el)  {i : Int32} : EV xs L (d + 1) 0 0 M_X11_setOf 434 h 0 [some (.ref 2), some (.int i), none] [] (fun sz' h' r => (r = [.null] ∨ ∃ a : Nat, wsAt a ∧ RB a ∧ r = [.ref a]) ∧ KB h h') := by
  refine r_iload_n rfl dX11_setOf_0 rfl ?_
  by_cases c51 : i.toInt < 3 ∨ 5 < i.toInt
  · refine r_swO (tgt := 49) dX11_setOf_1 rfl c51 ?_
    refine r_aload_n rfl dX11_setOf_49 rfl ?_
    refine r_aload_n rfl dX11_setOf_50 rfl ?_
    refine r_getv 15 rfl dX11_setOf_51 (show 2 ≤ 2 ∧ 2 < 434 by decide) h2 fl_X11_86 rfl ?_
    refine cl_X11_121 rfl rfl dX11_setOf_54 (show 2 ≤ 2 ∧ 2 < 434 by decide).1 (show 2 ≤ 2 ∧ 2 < 434 by decide).2 h2 (Nat.le_of_ble_eq_true rfl) (s_X11_lineAt hS h2) ?_
    rintro _ h52 _ ⟨rfl, e55, H54⟩
    replace e55 := e55.symm
    subst e55
    rcases H54 with rfl | ⟨n56, hn57, rfl⟩
    · refine r_astore_nN (ls' := [some (.ref 2), some (.int i), some (.null)]) rfl dX11_setOf_57 (Nat.le_of_ble_eq_true rfl) rfl ?_
      refine r_aload_nN rfl dX11_setOf_58 rfl ?_
      refine r_ifnonnullN rfl (by decide) dX11_setOf_59 ?_
      refine r_null rfl dX11_setOf_62 ?_
      refine r_goto (pc' := 71) rfl dX11_setOf_63 ?_
      exact r_ret dX11_setOf_71 (rt_n rfl) ⟨Or.inl rfl, fun _ _ => rfl⟩
    · refine r_astore_n (ls' := [some (.ref 2), some (.int i), some (.ref (100 + 8 * n56))]) rfl dX11_setOf_57 (Nat.le_of_ble_eq_true rfl) rfl ?_
      refine r_aload_n rfl dX11_setOf_58 rfl ?_
      refine r_ifnonnull (tgt := 66) rfl dX11_setOf_59 ?_
      refine r_aload_n rfl dX11_setOf_66 rfl ?_
      refine r_iload_n rfl dX11_setOf_67 rfl ?_
      obtain ⟨y59, y60, y61, y62, y63, y64, f58⟩ := hS.ln hn57
      refine cl_X11_153 rfl rfl dX11_setOf_68 (show 2 ≤ 100 + 8 * n56 ∧ 100 + 8 * n56 < 434 by omega).1 (show 2 ≤ 100 + 8 * n56 ∧ 100 + 8 * n56 < 434 by omega).2 f58 (Nat.le_of_ble_eq_true rfl) ((s_X3_sayingBy hS hn57).shB hS (okl_c (vr_r (show RB (100 + 8 * n56) from Or.inr ⟨by omega, by omega, by omega⟩)) (okl_c (vr_i _) okl_n))) ?_
      rintro _ h65 _ ⟨H67, rfl, hS66, hk68⟩
      have p69 : h65 2 = .inr (11, [.ref 3, .ref 5, .ref 12, .ref 13, .ref 24, .ref 93, .ref 95, .ref 96, .ref 97, .ref 98, .ref 99, .int cc, .int lc, .int sc, .int wr, .int el]) := by rw [hk68 2 (RB_n (by decide) (by decide))]; exact h2
      rcases H67 with ⟨j70, hj71, rfl⟩
      · exact r_ret dX11_setOf_71 (rt_a rfl) ⟨Or.inr ⟨_, (wsAt_ln hn57 hj71), (show RB (102 + 8 * n56 + 2 * j70) from Or.inr ⟨by omega, by omega, by omega⟩), rfl⟩, fun k z => hk68 k z⟩
  · have c51a : ¬ i.toInt < 3 := fun z => c51 (Or.inl z)
    have c51b : ¬ 5 < i.toInt := fun z => c51 (Or.inr z)
    rcases (show i.toInt = 3 ∨ i.toInt = 4 ∨ i.toInt = 5 by omega) with c51e | c51e | c51e
    · refine r_swI (off := 27) (tgt := 28) dX11_setOf_1 rfl c51a c51b (by rw [c51e]; rfl) ?_
      refine r_aload_n rfl dX11_setOf_28 rfl ?_
      refine r_getv 3 rfl dX11_setOf_29 (show 2 ≤ 2 ∧ 2 < 434 by decide) h2 fl_X11_32 rfl ?_
      obtain ⟨y73, y74, y75, y76, f72⟩ := hS.o13
      refine r_getv 2 rfl dX11_setOf_32 (show 2 ≤ 13 ∧ 13 < 434 by decide) f72 fl_X11_177 rfl ?_
      exact r_ret dX11_setOf_35 (rt_a rfl) ⟨Or.inr ⟨_, wsAt_18, (show RB 18 from Or.inr ⟨by decide, by decide, by decide⟩), rfl⟩, fun _ _ => rfl⟩
    · refine r_swI (off := 35) (tgt := 36) dX11_setOf_1 rfl c51a c51b (by rw [c51e]; rfl) ?_
      refine r_aload_n rfl dX11_setOf_36 rfl ?_
      refine r_getv 3 rfl dX11_setOf_37 (show 2 ≤ 2 ∧ 2 < 434 by decide) h2 fl_X11_32 rfl ?_
      obtain ⟨y78, y79, y80, y81, f77⟩ := hS.o13
      refine r_getv 3 rfl dX11_setOf_40 (show 2 ≤ 13 ∧ 13 < 434 by decide) f77 fl_X11_180 rfl ?_
      exact r_ret dX11_setOf_43 (rt_a rfl) ⟨Or.inr ⟨_, wsAt_20, (show RB 20 from Or.inr ⟨by decide, by decide, by decide⟩), rfl⟩, fun _ _ => rfl⟩
    · refine r_swI (off := 43) (tgt := 44) dX11_setOf_1 rfl c51a c51b (by rw [c51e]; rfl) ?_
      refine r_aload_n rfl dX11_setOf_44 rfl ?_
      refine r_getv 5 rfl dX11_setOf_45 (show 2 ≤ 2 ∧ 2 < 434 by decide) h2 fl_X11_46 rfl ?_
      exact r_ret dX11_setOf_48 (rt_a rfl) ⟨Or.inr ⟨_, wsAt_93, (show RB 93 from Or.inr ⟨by decide, by decide, by decide⟩), rfl⟩, fun _ _ => rfl⟩
set_option maxRecDepth 20000 in
theorem s_X11_ruleOf {xs : Nat → Int32} {L d : Nat} {h : ev_H} (hS : SH h) {cc lc sc wr el : Int32} (h2 : h 2 = c2 cc lc sc wr el)  {i : Int32} : EV xs L (d + 0) 0 0 M_X11_ruleOf 434 h 0 [some (.ref 2), some (.int i)] [] (fun sz' h' r => sz' = 434 ∧ h' = h ∧ (r = [.null] ∨ r = [.ref 96] ∨ r = [.ref 97] ∨ r = [.ref 98] ∨ r = [.ref 99])) := by
  refine r_iload_n rfl dX11_ruleOf_0 rfl ?_
  by_cases c51 : i.toInt < 0 ∨ 3 < i.toInt
  · refine r_swO (tgt := 52) dX11_ruleOf_1 rfl c51 ?_
    refine r_null rfl dX11_ruleOf_52 ?_
    exact r_ret dX11_ruleOf_53 (rt_n rfl) ⟨rfl, rfl, Or.inl rfl⟩
  · have c51a : ¬ i.toInt < 0 := fun z => c51 (Or.inl z)
    have c51b : ¬ 3 < i.toInt := fun z => c51 (Or.inr z)
    rcases (show i.toInt = 0 ∨ i.toInt = 1 ∨ i.toInt = 2 ∨ i.toInt = 3 by omega) with c51e | c51e | c51e | c51e
    · refine r_swI (off := 31) (tgt := 32) dX11_ruleOf_1 rfl c51a c51b (by rw [c51e]; rfl) ?_
      refine r_aload_n rfl dX11_ruleOf_32 rfl ?_
      refine r_getv 7 rfl dX11_ruleOf_33 (show 2 ≤ 2 ∧ 2 < 434 by decide) h2 fl_X11_60 rfl ?_
      exact r_ret dX11_ruleOf_36 (rt_a rfl) ⟨rfl, rfl, Or.inr (Or.inl rfl)⟩
    · refine r_swI (off := 36) (tgt := 37) dX11_ruleOf_1 rfl c51a c51b (by rw [c51e]; rfl) ?_
      refine r_aload_n rfl dX11_ruleOf_37 rfl ?_
      refine r_getv 8 rfl dX11_ruleOf_38 (show 2 ≤ 2 ∧ 2 < 434 by decide) h2 fl_X11_67 rfl ?_
      exact r_ret dX11_ruleOf_41 (rt_a rfl) ⟨rfl, rfl, Or.inr (Or.inr (Or.inl rfl))⟩
    · refine r_swI (off := 41) (tgt := 42) dX11_ruleOf_1 rfl c51a c51b (by rw [c51e]; rfl) ?_
      refine r_aload_n rfl dX11_ruleOf_42 rfl ?_
      refine r_getv 9 rfl dX11_ruleOf_43 (show 2 ≤ 2 ∧ 2 < 434 by decide) h2 fl_X11_73 rfl ?_
      exact r_ret dX11_ruleOf_46 (rt_a rfl) ⟨rfl, rfl, Or.inr (Or.inr (Or.inr (Or.inl rfl)))⟩
    · refine r_swI (off := 46) (tgt := 47) dX11_ruleOf_1 rfl c51a c51b (by rw [c51e]; rfl) ?_
      refine r_aload_n rfl dX11_ruleOf_47 rfl ?_
      refine r_getv 10 rfl dX11_ruleOf_48 (show 2 ≤ 2 ∧ 2 < 434 by decide) h2 fl_X11_79 rfl ?_
      exact r_ret dX11_ruleOf_51 (rt_a rfl) ⟨rfl, rfl, Or.inr (Or.inr (Or.inr (Or.inr rfl)))⟩
set_option maxRecDepth 20000 in
theorem s_X11_wrong {xs : Nat → Int32} {L d : Nat} {h : ev_H} (hS : SH h) {cc lc sc wr el : Int32} (h2 : h 2 = c2 cc lc sc wr el)   : EV xs L (d + 0) 0 0 M_X11_wrong 434 h 0 [some (.ref 2)] [] (fun sz' h' r => (r = [.int wr]) ∧ KB h h') := by
  refine r_aload_n rfl dX11_wrong_0 rfl ?_
  refine r_getv 14 rfl dX11_wrong_1 (show 2 ≤ 2 ∧ 2 < 434 by decide) h2 fl_X11_82 rfl ?_
  exact r_ret dX11_wrong_4 (rt_i rfl) ⟨rfl, fun _ _ => rfl⟩
set_option maxRecDepth 20000 in
theorem s_X11_end {xs : Nat → Int32} {L d : Nat} {h : ev_H} (hS : SH h) {cc lc sc wr el : Int32} (h2 : h 2 = c2 cc lc sc wr el)   : EV xs L (d + 0) 0 0 M_X11_end 434 h 0 [some (.ref 2)] [] (fun sz' h' r => (r = [.int el]) ∧ KB h h') := by
  refine r_aload_n rfl dX11_end_0 rfl ?_
  refine r_getv 15 rfl dX11_end_1 (show 2 ≤ 2 ∧ 2 < 434 by decide) h2 fl_X11_86 rfl ?_
  exact r_ret dX11_end_4 (rt_i rfl) ⟨rfl, fun _ _ => rfl⟩
set_option maxRecDepth 20000 in
theorem s_X11_line {xs : Nat → Int32} {L d : Nat} {h : ev_H} (hS : SH h) {cc lc sc wr el : Int32} (h2 : h 2 = c2 cc lc sc wr el) {x y : Int32}  : EV xs L (d + 2) 0 0 M_X11_line 434 h 0 [some (.ref 2), some (.int x), some (.int y), none] [] (fun sz' h' r => (∃ x : Int32, r = [.int x]) ∧ KB h h') := by
  refine r_aload_n rfl dX11_line_0 rfl ?_
  refine r_iload_n rfl dX11_line_1 rfl ?_
  refine cl_X11_121 rfl rfl dX11_line_2 (show 2 ≤ 2 ∧ 2 < 434 by decide).1 (show 2 ≤ 2 ∧ 2 < 434 by decide).2 h2 (Nat.le_of_ble_eq_true rfl) (s_X11_lineAt hS h2) ?_
  rintro _ h51 _ ⟨rfl, e54, H53⟩
  replace e54 := e54.symm
  subst e54
  rcases H53 with rfl | ⟨n55, hn56, rfl⟩
  · refine r_astore_nN (ls' := [some (.ref 2), some (.int x), some (.int y), some (.null)]) rfl dX11_line_5 (Nat.le_of_ble_eq_true rfl) rfl ?_
    refine r_aload_nN rfl dX11_line_6 rfl ?_
    refine r_ifnonnullN rfl (by decide) dX11_line_7 ?_
    refine r_iconst (v := (-1)) rfl dX11_line_10 (by decide) ?_
    refine r_goto (pc' := 19) rfl dX11_line_11 ?_
    exact r_ret dX11_line_19 (rt_i rfl) ⟨⟨_, rfl⟩, fun _ _ => rfl⟩
  · refine r_astore_n (ls' := [some (.ref 2), some (.int x), some (.int y), some (.ref (100 + 8 * n55))]) rfl dX11_line_5 (Nat.le_of_ble_eq_true rfl) rfl ?_
    refine r_aload_n rfl dX11_line_6 rfl ?_
    refine r_ifnonnull (tgt := 14) rfl dX11_line_7 ?_
    refine r_aload_n rfl dX11_line_14 rfl ?_
    refine r_iload_n rfl dX11_line_15 rfl ?_
    obtain ⟨y58, y59, y60, y61, y62, y63, f57⟩ := hS.ln hn56
    refine cl_X11_125 rfl rfl dX11_line_16 (show 2 ≤ 100 + 8 * n55 ∧ 100 + 8 * n55 < 434 by omega).1 (show 2 ≤ 100 + 8 * n55 ∧ 100 + 8 * n55 < 434 by omega).2 f57 (Nat.le_of_ble_eq_true rfl) ((s_X3_property hS hn56).shB hS (okl_c (vr_r (show RB (100 + 8 * n55) from Or.inr ⟨by omega, by omega, by omega⟩)) (okl_c (vr_i _) okl_n))) ?_
    rintro _ h64 _ ⟨⟨x67, rfl⟩, rfl, hS65, hk66⟩
    have p68 : h64 2 = .inr (11, [.ref 3, .ref 5, .ref 12, .ref 13, .ref 24, .ref 93, .ref 95, .ref 96, .ref 97, .ref 98, .ref 99, .int cc, .int lc, .int sc, .int wr, .int el]) := by rw [hk66 2 (RB_n (by decide) (by decide))]; exact h2
    exact r_ret dX11_line_19 (rt_i rfl) ⟨⟨_, rfl⟩, fun k z => hk66 k z⟩
set_option maxRecDepth 20000 in
theorem s_X11_side {xs : Nat → Int32} {L d : Nat} {h : ev_H} (hS : SH h) {cc lc sc wr el : Int32} (h2 : h 2 = c2 cc lc sc wr el) {x : Int32}  : EV xs L (d + 1) 0 0 M_X11_side 434 h 0 [some (.ref 2), some (.int x)] [] (fun sz' h' r => (∃ x : Int32, r = [.int x]) ∧ KB h h') := by
  refine r_iload_n rfl dX11_side_0 rfl ?_
  refine r_if_lt (tgt := 10) rfl rfl dX11_side_1 (fun c51 => ?_) (fun c51 => ?_)
  · refine r_iconst (v := (-1)) rfl dX11_side_10 (by decide) ?_
    refine r_goto (pc' := 22) rfl dX11_side_11 ?_
    exact r_ret dX11_side_22 (rt_i rfl) ⟨⟨_, rfl⟩, fun _ _ => rfl⟩
  · refine r_iload_n rfl dX11_side_4 rfl ?_
    refine r_bipush (v := 8) rfl dX11_side_5 (by decide) ?_
    refine r_icmp_lt (tgt := 14) rfl rfl dX11_side_7 (fun c52 => ?_) (fun c52 => ?_)
    · refine r_aload_n rfl dX11_side_14 rfl ?_
      refine r_getv 3 rfl dX11_side_15 (show 2 ≤ 2 ∧ 2 < 434 by decide) h2 fl_X11_32 rfl ?_
      refine r_iload_n rfl dX11_side_18 rfl ?_
      obtain ⟨y54, y55, y56, y57, f53⟩ := hS.o13
      refine cl_X11_129 rfl rfl dX11_side_19 (show 2 ≤ 13 ∧ 13 < 434 by decide).1 (show 2 ≤ 13 ∧ 13 < 434 by decide).2 f53 (Nat.le_of_ble_eq_true rfl) ((s_X7_ownerOf hS ).shB hS (okl_c (vr_r (show RB 13 from Or.inr ⟨by decide, by decide, by decide⟩)) (okl_c (vr_i _) (okl_o (okl_o okl_n))))) ?_
      rintro _ h58 _ ⟨⟨x61, rfl⟩, rfl, hS59, hk60⟩
      have p62 : h58 2 = .inr (11, [.ref 3, .ref 5, .ref 12, .ref 13, .ref 24, .ref 93, .ref 95, .ref 96, .ref 97, .ref 98, .ref 99, .int cc, .int lc, .int sc, .int wr, .int el]) := by rw [hk60 2 (RB_n (by decide) (by decide))]; exact h2
      exact r_ret dX11_side_22 (rt_i rfl) ⟨⟨_, rfl⟩, fun k z => hk60 k z⟩
    · refine r_iconst (v := (-1)) rfl dX11_side_10 (by decide) ?_
      refine r_goto (pc' := 22) rfl dX11_side_11 ?_
      exact r_ret dX11_side_22 (rt_i rfl) ⟨⟨_, rfl⟩, fun _ _ => rfl⟩
set_option maxRecDepth 20000 in
theorem s_X11_holds {xs : Nat → Int32} {L d : Nat} {h : ev_H} (hS : SH h) {cc lc sc wr el : Int32} (h2 : h 2 = c2 cc lc sc wr el) {x y : Int32}  : EV xs L (d + 1) 0 0 M_X11_holds 434 h 0 [some (.ref 2), some (.int x), some (.int y), none] [] (fun sz' h' r => (∃ x : Int32, r = [.int x]) ∧ KB h h') := by
  refine r_aload_n rfl dX11_holds_0 rfl ?_
  refine r_iload_n rfl dX11_holds_1 rfl ?_
  refine cl_X11_121 rfl rfl dX11_holds_2 (show 2 ≤ 2 ∧ 2 < 434 by decide).1 (show 2 ≤ 2 ∧ 2 < 434 by decide).2 h2 (Nat.le_of_ble_eq_true rfl) (s_X11_lineAt hS h2) ?_
  rintro _ h51 _ ⟨rfl, e54, H53⟩
  replace e54 := e54.symm
  subst e54
  rcases H53 with rfl | ⟨n55, hn56, rfl⟩
  · refine r_astore_nN (ls' := [some (.ref 2), some (.int x), some (.int y), some (.null)]) rfl dX11_holds_5 (Nat.le_of_ble_eq_true rfl) rfl ?_
    refine r_aload_nN rfl dX11_holds_6 rfl ?_
    refine r_ifnullN (tgt := 17) rfl dX11_holds_7 ?_
    refine r_iconst (v := (-1)) rfl dX11_holds_17 (by decide) ?_
    exact r_ret dX11_holds_18 (rt_i rfl) ⟨⟨_, rfl⟩, fun _ _ => rfl⟩
  · refine r_astore_n (ls' := [some (.ref 2), some (.int x), some (.int y), some (.ref (100 + 8 * n55))]) rfl dX11_holds_5 (Nat.le_of_ble_eq_true rfl) rfl ?_
    refine r_aload_n rfl dX11_holds_6 rfl ?_
    refine r_ifnull rfl (by decide) dX11_holds_7 ?_
    refine r_iload_n rfl dX11_holds_10 rfl ?_
    refine cl_X11_132 rfl rfl dX11_holds_11 (Nat.le_of_ble_eq_true rfl) s_X11_isWorld ?_
    rintro _ h57 _ ⟨rfl, e58, rfl⟩
    replace e58 := e58.symm
    subst e58
    refine r_if_ne (tgt := 19) rfl rfl dX11_holds_14 (fun c59 => ?_) (fun c59 => ?_)
    · refine r_aload_n rfl dX11_holds_19 rfl ?_
      refine r_iload_n rfl dX11_holds_20 rfl ?_
      obtain ⟨y61, y62, y63, y64, y65, y66, f60⟩ := hS.ln hn56
      refine cl_X11_136 rfl rfl dX11_holds_21 (show 2 ≤ 100 + 8 * n55 ∧ 100 + 8 * n55 < 434 by omega).1 (show 2 ≤ 100 + 8 * n55 ∧ 100 + 8 * n55 < 434 by omega).2 f60 (Nat.le_of_ble_eq_true rfl) ((s_X3_isSoIn hS hn56).shB hS (okl_c (vr_r (show RB (100 + 8 * n55) from Or.inr ⟨by omega, by omega, by omega⟩)) (okl_c (vr_i _) okl_n))) ?_
      rintro _ h67 _ ⟨⟨x70, rfl⟩, rfl, hS68, hk69⟩
      have p71 : h67 2 = .inr (11, [.ref 3, .ref 5, .ref 12, .ref 13, .ref 24, .ref 93, .ref 95, .ref 96, .ref 97, .ref 98, .ref 99, .int cc, .int lc, .int sc, .int wr, .int el]) := by rw [hk69 2 (RB_n (by decide) (by decide))]; exact h2
      refine r_if_eq (tgt := 31) rfl rfl dX11_holds_24 (fun c72 => ?_) (fun c72 => ?_)
      · refine r_iconst (v := 0) rfl dX11_holds_31 (by decide) ?_
        exact r_ret dX11_holds_32 (rt_i rfl) ⟨⟨_, rfl⟩, fun k z => hk69 k z⟩
      · refine r_iconst (v := 1) rfl dX11_holds_27 (by decide) ?_
        refine r_goto (pc' := 32) rfl dX11_holds_28 ?_
        exact r_ret dX11_holds_32 (rt_i rfl) ⟨⟨_, rfl⟩, fun k z => hk69 k z⟩
    · refine r_iconst (v := (-1)) rfl dX11_holds_17 (by decide) ?_
      exact r_ret dX11_holds_18 (rt_i rfl) ⟨⟨_, rfl⟩, fun _ _ => rfl⟩
set_option maxRecDepth 20000 in
theorem s_X11_worlds {xs : Nat → Int32} {L d : Nat} {h : ev_H} (hS : SH h) {cc lc sc wr el : Int32} (h2 : h 2 = c2 cc lc sc wr el) {x : Int32}  : EV xs L (d + 2) 0 0 M_X11_worlds 434 h 0 [some (.ref 2), some (.int x)] [] (fun sz' h' r => (∃ x : Int32, r = [.int x]) ∧ KB h h') := by
  refine r_iload_n rfl dX11_worlds_0 rfl ?_
  by_cases c51 : x.toInt < 0 ∨ 2 < x.toInt
  · refine r_swO (tgt := 68) dX11_worlds_1 rfl c51 ?_
    refine r_iconst (v := (-1)) rfl dX11_worlds_68 (by decide) ?_
    exact r_ret dX11_worlds_69 (rt_i rfl) ⟨⟨_, rfl⟩, fun _ _ => rfl⟩
  · have c51a : ¬ x.toInt < 0 := fun z => c51 (Or.inl z)
    have c51b : ¬ 2 < x.toInt := fun z => c51 (Or.inr z)
    rcases (show x.toInt = 0 ∨ x.toInt = 1 ∨ x.toInt = 2 by omega) with c51e | c51e | c51e
    · refine r_swI (off := 27) (tgt := 28) dX11_worlds_1 rfl c51a c51b (by rw [c51e]; rfl) ?_
      refine r_aload_n rfl dX11_worlds_28 rfl ?_
      refine r_getv 3 rfl dX11_worlds_29 (show 2 ≤ 2 ∧ 2 < 434 by decide) h2 fl_X11_32 rfl ?_
      obtain ⟨y53, y54, y55, y56, f52⟩ := hS.o13
      refine r_getv 0 rfl dX11_worlds_32 (show 2 ≤ 13 ∧ 13 < 434 by decide) f52 fl_X11_139 rfl ?_
      obtain ⟨g58, hw59⟩ := hS.ws wsAt_14
      refine cl_X11_142 rfl rfl dX11_worlds_35 (show 2 ≤ 14 ∧ 14 < 434 by decide).1 (show 2 ≤ 14 ∧ 14 < 434 by decide).2 hw59.2.2.1 (Nat.le_of_ble_eq_true rfl) (s_X10_size hw59) ?_
      rintro _ h60 _ ⟨rfl, e61, rfl⟩
      replace e61 := e61.symm
      subst e61
      exact r_ret dX11_worlds_38 (rt_i rfl) ⟨⟨_, rfl⟩, fun _ _ => rfl⟩
    · refine r_swI (off := 38) (tgt := 39) dX11_worlds_1 rfl c51a c51b (by rw [c51e]; rfl) ?_
      refine r_aload_n rfl dX11_worlds_39 rfl ?_
      refine r_getv 3 rfl dX11_worlds_40 (show 2 ≤ 2 ∧ 2 < 434 by decide) h2 fl_X11_32 rfl ?_
      obtain ⟨y63, y64, y65, y66, f62⟩ := hS.o13
      refine r_getv 1 rfl dX11_worlds_43 (show 2 ≤ 13 ∧ 13 < 434 by decide) f62 fl_X11_143 rfl ?_
      obtain ⟨g68, hw69⟩ := hS.ws wsAt_16
      refine cl_X11_142 rfl rfl dX11_worlds_46 (show 2 ≤ 16 ∧ 16 < 434 by decide).1 (show 2 ≤ 16 ∧ 16 < 434 by decide).2 hw69.2.2.1 (Nat.le_of_ble_eq_true rfl) (s_X10_size hw69) ?_
      rintro _ h70 _ ⟨rfl, e71, rfl⟩
      replace e71 := e71.symm
      subst e71
      exact r_ret dX11_worlds_49 (rt_i rfl) ⟨⟨_, rfl⟩, fun _ _ => rfl⟩
    · refine r_swI (off := 49) (tgt := 50) dX11_worlds_1 rfl c51a c51b (by rw [c51e]; rfl) ?_
      refine r_aload_n rfl dX11_worlds_50 rfl ?_
      refine r_getv 3 rfl dX11_worlds_51 (show 2 ≤ 2 ∧ 2 < 434 by decide) h2 fl_X11_32 rfl ?_
      obtain ⟨y73, y74, y75, y76, f72⟩ := hS.o13
      refine r_getv 0 rfl dX11_worlds_54 (show 2 ≤ 13 ∧ 13 < 434 by decide) f72 fl_X11_139 rfl ?_
      refine r_aload_n rfl dX11_worlds_57 rfl ?_
      refine r_getv 3 rfl dX11_worlds_58 (show 2 ≤ 2 ∧ 2 < 434 by decide) h2 fl_X11_32 rfl ?_
      refine r_getv 1 rfl dX11_worlds_61 (show 2 ≤ 13 ∧ 13 < 434 by decide) f72 fl_X11_143 rfl ?_
      obtain ⟨g78, hw79⟩ := hS.ws wsAt_14
      obtain ⟨g81, hw82⟩ := hS.ws wsAt_16
      refine cl_X11_146 rfl rfl dX11_worlds_64 (show 2 ≤ 14 ∧ 14 < 434 by decide).1 (show 2 ≤ 14 ∧ 14 < 434 by decide).2 hw79.2.2.1 (Nat.le_of_ble_eq_true rfl) (s_X10_sizeWith hw79 hw82) ?_
      rintro _ h83 _ ⟨rfl, e84, rfl⟩
      replace e84 := e84.symm
      subst e84
      exact r_ret dX11_worlds_67 (rt_i rfl) ⟨⟨_, rfl⟩, fun _ _ => rfl⟩
set_option maxRecDepth 20000 in
theorem s_X11_says {xs : Nat → Int32} {L d : Nat} {h : ev_H} (hS : SH h) {cc lc sc wr el : Int32} (h2 : h 2 = c2 cc lc sc wr el) {x y z : Int32}  : EV xs L (d + 2) 0 0 M_X11_says 434 h 0 [some (.ref 2), some (.int x), some (.int y), some (.int z), none] [] (fun sz' h' r => (∃ x : Int32, r = [.int x]) ∧ KB h h') := by
  refine r_aload_n rfl dX11_says_0 rfl ?_
  refine r_iload_n rfl dX11_says_1 rfl ?_
  refine cl_X11_121 rfl rfl dX11_says_2 (show 2 ≤ 2 ∧ 2 < 434 by decide).1 (show 2 ≤ 2 ∧ 2 < 434 by decide).2 h2 (Nat.le_of_ble_eq_true rfl) (s_X11_lineAt hS h2) ?_
  rintro _ h51 _ ⟨rfl, e54, H53⟩
  replace e54 := e54.symm
  subst e54
  rcases H53 with rfl | ⟨n55, hn56, rfl⟩
  · refine r_astoreN (ls' := [some (.ref 2), some (.int x), some (.int y), some (.int z), some (.null)]) rfl dX11_says_5 (Nat.le_of_ble_eq_true rfl) rfl ?_
    refine r_iload_n rfl dX11_says_7 rfl ?_
    refine cl_X11_150 rfl rfl dX11_says_8 (Nat.le_of_ble_eq_true rfl) s_X11_isWay ?_
    rintro _ h57 _ ⟨rfl, e58, rfl⟩
    replace e58 := e58.symm
    subst e58
    refine r_if_eq (tgt := 26) rfl rfl dX11_says_11 (fun c59 => ?_) (fun c59 => ?_)
    · refine r_iconst (v := (-1)) rfl dX11_says_26 (by decide) ?_
      exact r_ret dX11_says_27 (rt_i rfl) ⟨⟨_, rfl⟩, fun _ _ => rfl⟩
    · refine r_aloadN rfl dX11_says_14 rfl ?_
      refine r_ifnullN (tgt := 26) rfl dX11_says_16 ?_
      refine r_iconst (v := (-1)) rfl dX11_says_26 (by decide) ?_
      exact r_ret dX11_says_27 (rt_i rfl) ⟨⟨_, rfl⟩, fun _ _ => rfl⟩
  · refine r_astore (ls' := [some (.ref 2), some (.int x), some (.int y), some (.int z), some (.ref (100 + 8 * n55))]) rfl dX11_says_5 (Nat.le_of_ble_eq_true rfl) rfl ?_
    refine r_iload_n rfl dX11_says_7 rfl ?_
    refine cl_X11_150 rfl rfl dX11_says_8 (Nat.le_of_ble_eq_true rfl) s_X11_isWay ?_
    rintro _ h60 _ ⟨rfl, e61, rfl⟩
    replace e61 := e61.symm
    subst e61
    refine r_if_eq (tgt := 26) rfl rfl dX11_says_11 (fun c62 => ?_) (fun c62 => ?_)
    · refine r_iconst (v := (-1)) rfl dX11_says_26 (by decide) ?_
      exact r_ret dX11_says_27 (rt_i rfl) ⟨⟨_, rfl⟩, fun _ _ => rfl⟩
    · refine r_aload rfl dX11_says_14 rfl ?_
      refine r_ifnull rfl (by decide) dX11_says_16 ?_
      refine r_iload_n rfl dX11_says_19 rfl ?_
      refine cl_X11_132 rfl rfl dX11_says_20 (Nat.le_of_ble_eq_true rfl) s_X11_isWorld ?_
      rintro _ h63 _ ⟨rfl, e64, rfl⟩
      replace e64 := e64.symm
      subst e64
      refine r_if_ne (tgt := 28) rfl rfl dX11_says_23 (fun c65 => ?_) (fun c65 => ?_)
      · refine r_aload rfl dX11_says_28 rfl ?_
        refine r_iload_n rfl dX11_says_30 rfl ?_
        obtain ⟨y67, y68, y69, y70, y71, y72, f66⟩ := hS.ln hn56
        refine cl_X11_153 rfl rfl dX11_says_31 (show 2 ≤ 100 + 8 * n55 ∧ 100 + 8 * n55 < 434 by omega).1 (show 2 ≤ 100 + 8 * n55 ∧ 100 + 8 * n55 < 434 by omega).2 f66 (Nat.le_of_ble_eq_true rfl) ((s_X3_sayingBy hS hn56).shB hS (okl_c (vr_r (show RB (100 + 8 * n55) from Or.inr ⟨by omega, by omega, by omega⟩)) (okl_c (vr_i _) okl_n))) ?_
        rintro _ h73 _ ⟨H75, rfl, hS74, hk76⟩
        have p77 : h73 2 = .inr (11, [.ref 3, .ref 5, .ref 12, .ref 13, .ref 24, .ref 93, .ref 95, .ref 96, .ref 97, .ref 98, .ref 99, .int cc, .int lc, .int sc, .int wr, .int el]) := by rw [hk76 2 (RB_n (by decide) (by decide))]; exact h2
        rcases H75 with ⟨j78, hj79, rfl⟩
        · refine r_iload_n rfl dX11_says_34 rfl ?_
          obtain ⟨g81, hw82⟩ := hS74.ws (wsAt_ln hn56 hj79)
          refine cl_X11_157 rfl rfl dX11_says_35 (show _ ∧ _ from ⟨(wsAt_ln hn56 hj79).2.2.1, Nat.lt_of_succ_lt (wsAt_ln hn56 hj79).2.2.2⟩).1 (show _ ∧ _ from ⟨(wsAt_ln hn56 hj79).2.2.1, Nat.lt_of_succ_lt (wsAt_ln hn56 hj79).2.2.2⟩).2 hw82.2.2.1 (Nat.le_of_ble_eq_true rfl) (s_X10_has hw82) ?_
          rintro _ h83 _ ⟨rfl, e84, rfl⟩
          replace e84 := e84.symm
          subst e84
          refine r_if_eq (tgt := 45) rfl rfl dX11_says_38 (fun c85 => ?_) (fun c85 => ?_)
          · refine r_iconst (v := 0) rfl dX11_says_45 (by decide) ?_
            exact r_ret dX11_says_46 (rt_i rfl) ⟨⟨_, rfl⟩, fun k z => hk76 k z⟩
          · refine r_iconst (v := 1) rfl dX11_says_41 (by decide) ?_
            refine r_goto (pc' := 46) rfl dX11_says_42 ?_
            exact r_ret dX11_says_46 (rt_i rfl) ⟨⟨_, rfl⟩, fun k z => hk76 k z⟩
      · refine r_iconst (v := (-1)) rfl dX11_says_26 (by decide) ?_
        exact r_ret dX11_says_27 (rt_i rfl) ⟨⟨_, rfl⟩, fun _ _ => rfl⟩
set_option maxRecDepth 20000 in
theorem s_X11_saying {xs : Nat → Int32} {L d : Nat} {h : ev_H} (hS : SH h) {cc lc sc wr el : Int32} (h2 : h 2 = c2 cc lc sc wr el) {x y : Int32}  : EV xs L (d + 1) 0 0 M_X11_saying 434 h 0 [some (.ref 2), some (.int x), some (.int y), none] [] (fun sz' h' r => (∃ x : Int64, r = [.long x]) ∧ KB h h') := by
  refine r_aload_n rfl dX11_saying_0 rfl ?_
  refine r_aload_n rfl dX11_saying_1 rfl ?_
  refine r_getv 15 rfl dX11_saying_2 (show 2 ≤ 2 ∧ 2 < 434 by decide) h2 fl_X11_86 rfl ?_
  refine cl_X11_121 rfl rfl dX11_saying_5 (show 2 ≤ 2 ∧ 2 < 434 by decide).1 (show 2 ≤ 2 ∧ 2 < 434 by decide).2 h2 (Nat.le_of_ble_eq_true rfl) (s_X11_lineAt hS h2) ?_
  rintro _ h51 _ ⟨rfl, e54, H53⟩
  replace e54 := e54.symm
  subst e54
  rcases H53 with rfl | ⟨n55, hn56, rfl⟩
  · refine r_astore_nN (ls' := [some (.ref 2), some (.int x), some (.int y), some (.null)]) rfl dX11_saying_8 (Nat.le_of_ble_eq_true rfl) rfl ?_
    refine r_iload_n rfl dX11_saying_9 rfl ?_
    refine cl_X11_150 rfl rfl dX11_saying_10 (Nat.le_of_ble_eq_true rfl) s_X11_isWay ?_
    rintro _ h57 _ ⟨rfl, e58, rfl⟩
    replace e58 := e58.symm
    subst e58
    refine r_if_eq (tgt := 29) rfl rfl dX11_saying_13 (fun c59 => ?_) (fun c59 => ?_)
    · refine r_lconst (v := 0) rfl dX11_saying_29 (by decide) ?_
      exact r_ret dX11_saying_30 (rt_l rfl) ⟨⟨_, rfl⟩, fun _ _ => rfl⟩
    · refine r_iload_n rfl dX11_saying_16 rfl ?_
      refine r_if_lt (tgt := 29) rfl rfl dX11_saying_17 (fun c60 => ?_) (fun c60 => ?_)
      · refine r_lconst (v := 0) rfl dX11_saying_29 (by decide) ?_
        exact r_ret dX11_saying_30 (rt_l rfl) ⟨⟨_, rfl⟩, fun _ _ => rfl⟩
      · refine r_iload_n rfl dX11_saying_20 rfl ?_
        refine r_iconst (v := 4) rfl dX11_saying_21 (by decide) ?_
        refine r_icmp_ge (tgt := 29) rfl rfl dX11_saying_22 (fun c61 => ?_) (fun c61 => ?_)
        · refine r_lconst (v := 0) rfl dX11_saying_29 (by decide) ?_
          exact r_ret dX11_saying_30 (rt_l rfl) ⟨⟨_, rfl⟩, fun _ _ => rfl⟩
        · refine r_aload_nN rfl dX11_saying_25 rfl ?_
          refine r_ifnonnullN rfl (by decide) dX11_saying_26 ?_
          refine r_lconst (v := 0) rfl dX11_saying_29 (by decide) ?_
          exact r_ret dX11_saying_30 (rt_l rfl) ⟨⟨_, rfl⟩, fun _ _ => rfl⟩
  · refine r_astore_n (ls' := [some (.ref 2), some (.int x), some (.int y), some (.ref (100 + 8 * n55))]) rfl dX11_saying_8 (Nat.le_of_ble_eq_true rfl) rfl ?_
    refine r_iload_n rfl dX11_saying_9 rfl ?_
    refine cl_X11_150 rfl rfl dX11_saying_10 (Nat.le_of_ble_eq_true rfl) s_X11_isWay ?_
    rintro _ h62 _ ⟨rfl, e63, rfl⟩
    replace e63 := e63.symm
    subst e63
    refine r_if_eq (tgt := 29) rfl rfl dX11_saying_13 (fun c64 => ?_) (fun c64 => ?_)
    · refine r_lconst (v := 0) rfl dX11_saying_29 (by decide) ?_
      exact r_ret dX11_saying_30 (rt_l rfl) ⟨⟨_, rfl⟩, fun _ _ => rfl⟩
    · refine r_iload_n rfl dX11_saying_16 rfl ?_
      refine r_if_lt (tgt := 29) rfl rfl dX11_saying_17 (fun c65 => ?_) (fun c65 => ?_)
      · refine r_lconst (v := 0) rfl dX11_saying_29 (by decide) ?_
        exact r_ret dX11_saying_30 (rt_l rfl) ⟨⟨_, rfl⟩, fun _ _ => rfl⟩
      · refine r_iload_n rfl dX11_saying_20 rfl ?_
        refine r_iconst (v := 4) rfl dX11_saying_21 (by decide) ?_
        refine r_icmp_ge (tgt := 29) rfl rfl dX11_saying_22 (fun c66 => ?_) (fun c66 => ?_)
        · refine r_lconst (v := 0) rfl dX11_saying_29 (by decide) ?_
          exact r_ret dX11_saying_30 (rt_l rfl) ⟨⟨_, rfl⟩, fun _ _ => rfl⟩
        · refine r_aload_n rfl dX11_saying_25 rfl ?_
          refine r_ifnonnull (tgt := 31) rfl dX11_saying_26 ?_
          refine r_aload_n rfl dX11_saying_31 rfl ?_
          refine r_iload_n rfl dX11_saying_32 rfl ?_
          obtain ⟨y68, y69, y70, y71, y72, y73, f67⟩ := hS.ln hn56
          refine cl_X11_153 rfl rfl dX11_saying_33 (show 2 ≤ 100 + 8 * n55 ∧ 100 + 8 * n55 < 434 by omega).1 (show 2 ≤ 100 + 8 * n55 ∧ 100 + 8 * n55 < 434 by omega).2 f67 (Nat.le_of_ble_eq_true rfl) ((s_X3_sayingBy hS hn56).shB hS (okl_c (vr_r (show RB (100 + 8 * n55) from Or.inr ⟨by omega, by omega, by omega⟩)) (okl_c (vr_i _) okl_n))) ?_
          rintro _ h74 _ ⟨H76, rfl, hS75, hk77⟩
          have p78 : h74 2 = .inr (11, [.ref 3, .ref 5, .ref 12, .ref 13, .ref 24, .ref 93, .ref 95, .ref 96, .ref 97, .ref 98, .ref 99, .int cc, .int lc, .int sc, .int wr, .int el]) := by rw [hk77 2 (RB_n (by decide) (by decide))]; exact h2
          rcases H76 with ⟨j79, hj80, rfl⟩
          · refine r_iload_n rfl dX11_saying_36 rfl ?_
            obtain ⟨g82, hw83⟩ := hS75.ws (wsAt_ln hn56 hj80)
            refine cl_X11_160 rfl rfl dX11_saying_37 (show _ ∧ _ from ⟨(wsAt_ln hn56 hj80).2.2.1, Nat.lt_of_succ_lt (wsAt_ln hn56 hj80).2.2.2⟩).1 (show _ ∧ _ from ⟨(wsAt_ln hn56 hj80).2.2.1, Nat.lt_of_succ_lt (wsAt_ln hn56 hj80).2.2.2⟩).2 hw83.2.2.1 (Nat.le_of_ble_eq_true rfl) (s_X10_part hw83) ?_
            rintro _ h84 _ ⟨rfl, e85, rfl⟩
            replace e85 := e85.symm
            subst e85
            exact r_ret dX11_saying_40 (rt_l rfl) ⟨⟨_, rfl⟩, fun k z => hk77 k z⟩
set_option maxRecDepth 20000 in
theorem s_X11_between {xs : Nat → Int32} {L d : Nat} {h : ev_H} (hS : SH h) {cc lc sc wr el : Int32} (h2 : h 2 = c2 cc lc sc wr el) {x : Int32}  : EV xs L (d + 4) 0 0 M_X11_between 434 h 0 [some (.ref 2), some (.int x), none] [] (fun sz' h' r => (∃ x : Int32, r = [.int x]) ∧ KB h h') := by
  refine r_iload_n rfl dX11_between_0 rfl ?_
  refine cl_X11_150 rfl rfl dX11_between_1 (Nat.le_of_ble_eq_true rfl) s_X11_isWay ?_
  rintro _ h51 _ ⟨rfl, e52, rfl⟩
  replace e52 := e52.symm
  subst e52
  refine r_if_ne (tgt := 9) rfl rfl dX11_between_4 (fun c53 => ?_) (fun c53 => ?_)
  · refine r_aload_n rfl dX11_between_9 rfl ?_
    refine r_aload_n rfl dX11_between_10 rfl ?_
    refine r_getv 15 rfl dX11_between_11 (show 2 ≤ 2 ∧ 2 < 434 by decide) h2 fl_X11_86 rfl ?_
    refine cl_X11_121 rfl rfl dX11_between_14 (show 2 ≤ 2 ∧ 2 < 434 by decide).1 (show 2 ≤ 2 ∧ 2 < 434 by decide).2 h2 (Nat.le_of_ble_eq_true rfl) (s_X11_lineAt hS h2) ?_
    rintro _ h54 _ ⟨rfl, e57, H56⟩
    replace e57 := e57.symm
    subst e57
    rcases H56 with rfl | ⟨n58, hn59, rfl⟩
    · refine r_astore_nN (ls' := [some (.ref 2), some (.int x), some (.null)]) rfl dX11_between_17 (Nat.le_of_ble_eq_true rfl) rfl ?_
      refine r_aload_nN rfl dX11_between_18 rfl ?_
      refine r_ifnonnullN rfl (by decide) dX11_between_19 ?_
      refine r_bipush (v := (-2)) rfl dX11_between_22 (by decide) ?_
      refine r_goto (pc' := 39) rfl dX11_between_24 ?_
      exact r_ret dX11_between_39 (rt_i rfl) ⟨⟨_, rfl⟩, fun _ _ => rfl⟩
    · refine r_astore_n (ls' := [some (.ref 2), some (.int x), some (.ref (100 + 8 * n58))]) rfl dX11_between_17 (Nat.le_of_ble_eq_true rfl) rfl ?_
      refine r_aload_n rfl dX11_between_18 rfl ?_
      refine r_ifnonnull (tgt := 27) rfl dX11_between_19 ?_
      refine r_aload_n rfl dX11_between_27 rfl ?_
      refine r_getv 3 rfl dX11_between_28 (show 2 ≤ 2 ∧ 2 < 434 by decide) h2 fl_X11_32 rfl ?_
      refine r_aload_n rfl dX11_between_31 rfl ?_
      refine r_iload_n rfl dX11_between_32 rfl ?_
      obtain ⟨y61, y62, y63, y64, y65, y66, f60⟩ := hS.ln hn59
      refine cl_X11_153 rfl rfl dX11_between_33 (show 2 ≤ 100 + 8 * n58 ∧ 100 + 8 * n58 < 434 by omega).1 (show 2 ≤ 100 + 8 * n58 ∧ 100 + 8 * n58 < 434 by omega).2 f60 (Nat.le_of_ble_eq_true rfl) ((s_X3_sayingBy hS hn59).shB hS (okl_c (vr_r (show RB (100 + 8 * n58) from Or.inr ⟨by omega, by omega, by omega⟩)) (okl_c (vr_i _) okl_n))) ?_
      rintro _ h67 _ ⟨H69, rfl, hS68, hk70⟩
      have p71 : h67 2 = .inr (11, [.ref 3, .ref 5, .ref 12, .ref 13, .ref 24, .ref 93, .ref 95, .ref 96, .ref 97, .ref 98, .ref 99, .int cc, .int lc, .int sc, .int wr, .int el]) := by rw [hk70 2 (RB_n (by decide) (by decide))]; exact h2
      rcases H69 with ⟨j72, hj73, rfl⟩
      · obtain ⟨y75, y76, y77, y78, f74⟩ := hS68.o13
        refine cl_X11_164 rfl rfl dX11_between_36 (show 2 ≤ 13 ∧ 13 < 434 by decide).1 (show 2 ≤ 13 ∧ 13 < 434 by decide).2 f74 (Nat.le_of_ble_eq_true rfl) ((s_X7_judge hS68 (wsAt_ln hn59 hj73)).shB hS68 (okl_c (vr_r (show RB 13 from Or.inr ⟨by decide, by decide, by decide⟩)) (okl_c (vr_r (show RB (102 + 8 * n58 + 2 * j72) from Or.inr ⟨by omega, by omega, by omega⟩)) okl_n))) ?_
        rintro _ h79 _ ⟨⟨x82, rfl⟩, rfl, hS80, hk81⟩
        have p83 : h79 2 = .inr (11, [.ref 3, .ref 5, .ref 12, .ref 13, .ref 24, .ref 93, .ref 95, .ref 96, .ref 97, .ref 98, .ref 99, .int cc, .int lc, .int sc, .int wr, .int el]) := by rw [hk81 2 (RB_n (by decide) (by decide))]; exact p71
        exact r_ret dX11_between_39 (rt_i rfl) ⟨⟨_, rfl⟩, fun k z => (hk81 k z).trans (hk70 k z)⟩
  · refine r_iconst (v := (-1)) rfl dX11_between_7 (by decide) ?_
    exact r_ret dX11_between_8 (rt_i rfl) ⟨⟨_, rfl⟩, fun _ _ => rfl⟩
set_option maxRecDepth 20000 in
theorem s_X11_looks {xs : Nat → Int32} {L d : Nat} {h : ev_H} (hS : SH h) {cc lc sc wr el : Int32} (h2 : h 2 = c2 cc lc sc wr el) {x : Int32}  : EV xs L (d + 3) 0 0 M_X11_looks 434 h 0 [some (.ref 2), some (.int x), none] [] (fun sz' h' r => (∃ x : Int32, r = [.int x]) ∧ KB h h') := by
  refine r_iload_n rfl dX11_looks_0 rfl ?_
  refine r_if_lt (tgt := 9) rfl rfl dX11_looks_1 (fun c51 => ?_) (fun c51 => ?_)
  · refine r_iconst (v := (-1)) rfl dX11_looks_9 (by decide) ?_
    exact r_ret dX11_looks_10 (rt_i rfl) ⟨⟨_, rfl⟩, fun _ _ => rfl⟩
  · refine r_iload_n rfl dX11_looks_4 rfl ?_
    refine r_iconst (v := 5) rfl dX11_looks_5 (by decide) ?_
    refine r_icmp_le (tgt := 11) rfl rfl dX11_looks_6 (fun c52 => ?_) (fun c52 => ?_)
    · refine r_aload_n rfl dX11_looks_11 rfl ?_
      refine r_iload_n rfl dX11_looks_12 rfl ?_
      refine cl_X11_167 rfl rfl dX11_looks_13 (show 2 ≤ 2 ∧ 2 < 434 by decide).1 (show 2 ≤ 2 ∧ 2 < 434 by decide).2 h2 (Nat.le_of_ble_eq_true rfl) ((s_X11_setOf hS h2).sh hS) ?_
      rintro _ h53 _ ⟨⟨H55, hk56⟩, rfl, hS54, -⟩
      have p57 : h53 2 = .inr (11, [.ref 3, .ref 5, .ref 12, .ref 13, .ref 24, .ref 93, .ref 95, .ref 96, .ref 97, .ref 98, .ref 99, .int cc, .int lc, .int sc, .int wr, .int el]) := by rw [hk56 2 (RB_n (by decide) (by decide))]; exact h2
      rcases H55 with rfl | ⟨a58, ha59, hr60, rfl⟩
      · refine r_astore_nN (ls' := [some (.ref 2), some (.int x), some (.null)]) rfl dX11_looks_16 (Nat.le_of_ble_eq_true rfl) rfl ?_
        refine r_aload_nN rfl dX11_looks_17 rfl ?_
        refine r_ifnonnullN rfl (by decide) dX11_looks_18 ?_
        refine r_bipush (v := (-2)) rfl dX11_looks_21 (by decide) ?_
        refine r_goto (pc' := 30) rfl dX11_looks_23 ?_
        exact r_ret dX11_looks_30 (rt_i rfl) ⟨⟨_, rfl⟩, fun k z => hk56 k z⟩
      · refine r_astore_n (ls' := [some (.ref 2), some (.int x), some (.ref a58)]) rfl dX11_looks_16 (Nat.le_of_ble_eq_true rfl) rfl ?_
        refine r_aload_n rfl dX11_looks_17 rfl ?_
        refine r_ifnonnull (tgt := 26) rfl dX11_looks_18 ?_
        refine r_aload_n rfl dX11_looks_26 rfl ?_
        obtain ⟨g62, hw63⟩ := hS54.ws ha59
        refine cl_X11_170 rfl rfl dX11_looks_27 (show _ ∧ _ from ⟨ha59.2.2.1, Nat.lt_of_succ_lt ha59.2.2.2⟩).1 (show _ ∧ _ from ⟨ha59.2.2.1, Nat.lt_of_succ_lt ha59.2.2.2⟩).2 hw63.2.2.1 (Nat.le_of_ble_eq_true rfl) (s_X10_lettersLookedAt hw63) ?_
        rintro _ h64 _ ⟨rfl, e65, rfl⟩
        replace e65 := e65.symm
        subst e65
        exact r_ret dX11_looks_30 (rt_i rfl) ⟨⟨_, rfl⟩, fun k z => hk56 k z⟩
    · refine r_iconst (v := (-1)) rfl dX11_looks_9 (by decide) ?_
      exact r_ret dX11_looks_10 (rt_i rfl) ⟨⟨_, rfl⟩, fun _ _ => rfl⟩
set_option maxRecDepth 20000 in
theorem s_X11_compare {xs : Nat → Int32} {L d : Nat} {h : ev_H} (hS : SH h) {cc lc sc wr el : Int32} (h2 : h 2 = c2 cc lc sc wr el) {x y : Int32}  : EV xs L (d + 3) 0 0 M_X11_compare 434 h 0 [some (.ref 2), some (.int x), some (.int y), none, none, none, none] [] (fun sz' h' r => (∃ x : Int32, r = [.int x]) ∧ KB h h') := by
  refine r_iload_n rfl dX11_compare_0 rfl ?_
  refine r_if_lt (tgt := 18) rfl rfl dX11_compare_1 (fun c51 => ?_) (fun c51 => ?_)
  · refine r_iconst (v := (-1)) rfl dX11_compare_18 (by decide) ?_
    exact r_ret dX11_compare_19 (rt_i rfl) ⟨⟨_, rfl⟩, fun _ _ => rfl⟩
  · refine r_iload_n rfl dX11_compare_4 rfl ?_
    refine r_iconst (v := 5) rfl dX11_compare_5 (by decide) ?_
    refine r_icmp_gt (tgt := 18) rfl rfl dX11_compare_6 (fun c52 => ?_) (fun c52 => ?_)
    · refine r_iconst (v := (-1)) rfl dX11_compare_18 (by decide) ?_
      exact r_ret dX11_compare_19 (rt_i rfl) ⟨⟨_, rfl⟩, fun _ _ => rfl⟩
    · refine r_iload_n rfl dX11_compare_9 rfl ?_
      refine r_if_lt (tgt := 18) rfl rfl dX11_compare_10 (fun c53 => ?_) (fun c53 => ?_)
      · refine r_iconst (v := (-1)) rfl dX11_compare_18 (by decide) ?_
        exact r_ret dX11_compare_19 (rt_i rfl) ⟨⟨_, rfl⟩, fun _ _ => rfl⟩
      · refine r_iload_n rfl dX11_compare_13 rfl ?_
        refine r_iconst (v := 5) rfl dX11_compare_14 (by decide) ?_
        refine r_icmp_le (tgt := 20) rfl rfl dX11_compare_15 (fun c54 => ?_) (fun c54 => ?_)
        · refine r_aload_n rfl dX11_compare_20 rfl ?_
          refine r_iload_n rfl dX11_compare_21 rfl ?_
          refine cl_X11_167 rfl rfl dX11_compare_22 (show 2 ≤ 2 ∧ 2 < 434 by decide).1 (show 2 ≤ 2 ∧ 2 < 434 by decide).2 h2 (Nat.le_of_ble_eq_true rfl) ((s_X11_setOf hS h2).sh hS) ?_
          rintro _ h55 _ ⟨⟨H57, hk58⟩, rfl, hS56, -⟩
          have p59 : h55 2 = .inr (11, [.ref 3, .ref 5, .ref 12, .ref 13, .ref 24, .ref 93, .ref 95, .ref 96, .ref 97, .ref 98, .ref 99, .int cc, .int lc, .int sc, .int wr, .int el]) := by rw [hk58 2 (RB_n (by decide) (by decide))]; exact h2
          rcases H57 with rfl | ⟨a60, ha61, hr62, rfl⟩
          · refine r_astore_nN (ls' := [some (.ref 2), some (.int x), some (.int y), some (.null), none, none, none]) rfl dX11_compare_25 (Nat.le_of_ble_eq_true rfl) rfl ?_
            refine r_aload_n rfl dX11_compare_26 rfl ?_
            refine r_iload_n rfl dX11_compare_27 rfl ?_
            refine cl_X11_167 rfl rfl dX11_compare_28 (show 2 ≤ 2 ∧ 2 < 434 by decide).1 (show 2 ≤ 2 ∧ 2 < 434 by decide).2 p59 (Nat.le_of_ble_eq_true rfl) ((s_X11_setOf hS56 p59).sh hS56) ?_
            rintro _ h63 _ ⟨⟨H65, hk66⟩, rfl, hS64, -⟩
            have p67 : h63 2 = .inr (11, [.ref 3, .ref 5, .ref 12, .ref 13, .ref 24, .ref 93, .ref 95, .ref 96, .ref 97, .ref 98, .ref 99, .int cc, .int lc, .int sc, .int wr, .int el]) := by rw [hk66 2 (RB_n (by decide) (by decide))]; exact p59
            rcases H65 with rfl | ⟨a68, ha69, hr70, rfl⟩
            · refine r_astoreN (ls' := [some (.ref 2), some (.int x), some (.int y), some (.null), some (.null), none, none]) rfl dX11_compare_31 (Nat.le_of_ble_eq_true rfl) rfl ?_
              refine r_aload_nN rfl dX11_compare_33 rfl ?_
              refine r_ifnullN (tgt := 42) rfl dX11_compare_34 ?_
              refine r_bipush (v := (-2)) rfl dX11_compare_42 (by decide) ?_
              exact r_ret dX11_compare_44 (rt_i rfl) ⟨⟨_, rfl⟩, fun k z => (hk66 k z).trans (hk58 k z)⟩
            · refine r_astore (ls' := [some (.ref 2), some (.int x), some (.int y), some (.null), some (.ref a68), none, none]) rfl dX11_compare_31 (Nat.le_of_ble_eq_true rfl) rfl ?_
              refine r_aload_nN rfl dX11_compare_33 rfl ?_
              refine r_ifnullN (tgt := 42) rfl dX11_compare_34 ?_
              refine r_bipush (v := (-2)) rfl dX11_compare_42 (by decide) ?_
              exact r_ret dX11_compare_44 (rt_i rfl) ⟨⟨_, rfl⟩, fun k z => (hk66 k z).trans (hk58 k z)⟩
          · refine r_astore_n (ls' := [some (.ref 2), some (.int x), some (.int y), some (.ref a60), none, none, none]) rfl dX11_compare_25 (Nat.le_of_ble_eq_true rfl) rfl ?_
            refine r_aload_n rfl dX11_compare_26 rfl ?_
            refine r_iload_n rfl dX11_compare_27 rfl ?_
            refine cl_X11_167 rfl rfl dX11_compare_28 (show 2 ≤ 2 ∧ 2 < 434 by decide).1 (show 2 ≤ 2 ∧ 2 < 434 by decide).2 p59 (Nat.le_of_ble_eq_true rfl) ((s_X11_setOf hS56 p59).sh hS56) ?_
            rintro _ h71 _ ⟨⟨H73, hk74⟩, rfl, hS72, -⟩
            have p75 : h71 2 = .inr (11, [.ref 3, .ref 5, .ref 12, .ref 13, .ref 24, .ref 93, .ref 95, .ref 96, .ref 97, .ref 98, .ref 99, .int cc, .int lc, .int sc, .int wr, .int el]) := by rw [hk74 2 (RB_n (by decide) (by decide))]; exact p59
            rcases H73 with rfl | ⟨a76, ha77, hr78, rfl⟩
            · refine r_astoreN (ls' := [some (.ref 2), some (.int x), some (.int y), some (.ref a60), some (.null), none, none]) rfl dX11_compare_31 (Nat.le_of_ble_eq_true rfl) rfl ?_
              refine r_aload_n rfl dX11_compare_33 rfl ?_
              refine r_ifnull rfl (by decide) dX11_compare_34 ?_
              refine r_aloadN rfl dX11_compare_37 rfl ?_
              refine r_ifnonnullN rfl (by decide) dX11_compare_39 ?_
              refine r_bipush (v := (-2)) rfl dX11_compare_42 (by decide) ?_
              exact r_ret dX11_compare_44 (rt_i rfl) ⟨⟨_, rfl⟩, fun k z => (hk74 k z).trans (hk58 k z)⟩
            · refine r_astore (ls' := [some (.ref 2), some (.int x), some (.int y), some (.ref a60), some (.ref a76), none, none]) rfl dX11_compare_31 (Nat.le_of_ble_eq_true rfl) rfl ?_
              refine r_aload_n rfl dX11_compare_33 rfl ?_
              refine r_ifnull rfl (by decide) dX11_compare_34 ?_
              refine r_aload rfl dX11_compare_37 rfl ?_
              refine r_ifnonnull (tgt := 45) rfl dX11_compare_39 ?_
              refine r_aload_n rfl dX11_compare_45 rfl ?_
              refine r_aload rfl dX11_compare_46 rfl ?_
              obtain ⟨g80, hw81⟩ := hS72.ws ha61
              obtain ⟨g83, hw84⟩ := hS72.ws ha77
              refine cl_X11_173 rfl rfl dX11_compare_48 (show _ ∧ _ from ⟨ha61.2.2.1, Nat.lt_of_succ_lt ha61.2.2.2⟩).1 (show _ ∧ _ from ⟨ha61.2.2.1, Nat.lt_of_succ_lt ha61.2.2.2⟩).2 hw81.2.2.1 (Nat.le_of_ble_eq_true rfl) (s_X10_isWithin hw81 hw84) ?_
              rintro _ h85 _ ⟨rfl, e86, rfl⟩
              replace e86 := e86.symm
              subst e86
              refine r_topi (fun x87 e88 => ?_)
              refine r_istore (ls' := [some (.ref 2), some (.int x), some (.int y), some (.ref a60), some (.ref a76), some (.int x87), none]) rfl dX11_compare_51 (Nat.le_of_ble_eq_true rfl) rfl ?_
              refine r_aload rfl dX11_compare_53 rfl ?_
              refine r_aload_n rfl dX11_compare_55 rfl ?_
              refine cl_X11_173 rfl rfl dX11_compare_56 (show _ ∧ _ from ⟨ha77.2.2.1, Nat.lt_of_succ_lt ha77.2.2.2⟩).1 (show _ ∧ _ from ⟨ha77.2.2.1, Nat.lt_of_succ_lt ha77.2.2.2⟩).2 hw84.2.2.1 (Nat.le_of_ble_eq_true rfl) (s_X10_isWithin hw84 hw81) ?_
              rintro _ h89 _ ⟨rfl, e90, rfl⟩
              replace e90 := e90.symm
              subst e90
              refine r_topi (fun x91 e92 => ?_)
              refine r_istore (ls' := [some (.ref 2), some (.int x), some (.int y), some (.ref a60), some (.ref a76), some (.int x87), some (.int x91)]) rfl dX11_compare_59 (Nat.le_of_ble_eq_true rfl) rfl ?_
              refine r_iload rfl dX11_compare_61 rfl ?_
              refine r_if_eq (tgt := 77) rfl rfl dX11_compare_63 (fun c93 => ?_) (fun c93 => ?_)
              · refine r_iload rfl dX11_compare_77 rfl ?_
                refine r_if_eq (tgt := 86) rfl rfl dX11_compare_79 (fun c94 => ?_) (fun c94 => ?_)
                · refine r_iconst (v := 3) rfl dX11_compare_86 (by decide) ?_
                  exact r_ret dX11_compare_87 (rt_i rfl) ⟨⟨_, rfl⟩, fun k z => (hk74 k z).trans (hk58 k z)⟩
                · refine r_iconst (v := 2) rfl dX11_compare_82 (by decide) ?_
                  refine r_goto (pc' := 87) rfl dX11_compare_83 ?_
                  exact r_ret dX11_compare_87 (rt_i rfl) ⟨⟨_, rfl⟩, fun k z => (hk74 k z).trans (hk58 k z)⟩
              · refine r_iload rfl dX11_compare_66 rfl ?_
                refine r_if_eq (tgt := 75) rfl rfl dX11_compare_68 (fun c95 => ?_) (fun c95 => ?_)
                · refine r_iconst (v := 1) rfl dX11_compare_75 (by decide) ?_
                  exact r_ret dX11_compare_76 (rt_i rfl) ⟨⟨_, rfl⟩, fun k z => (hk74 k z).trans (hk58 k z)⟩
                · refine r_iconst (v := 0) rfl dX11_compare_71 (by decide) ?_
                  refine r_goto (pc' := 76) rfl dX11_compare_72 ?_
                  exact r_ret dX11_compare_76 (rt_i rfl) ⟨⟨_, rfl⟩, fun k z => (hk74 k z).trans (hk58 k z)⟩
        · refine r_iconst (v := (-1)) rfl dX11_compare_18 (by decide) ?_
          exact r_ret dX11_compare_19 (rt_i rfl) ⟨⟨_, rfl⟩, fun _ _ => rfl⟩
set_option maxRecDepth 20000 in
theorem s_X11_bounds {xs : Nat → Int32} {L d : Nat} {h : ev_H} (hS : SH h) {cc lc sc wr el : Int32} (h2 : h 2 = c2 cc lc sc wr el) {x : Int32}  : EV xs L (d + 3) 0 0 M_X11_bounds 434 h 0 [some (.ref 2), some (.int x)] [] (fun sz' h' r => (∃ x : Int32, r = [.int x]) ∧ KB h h') := by
  refine r_iload_n rfl dX11_bounds_0 rfl ?_
  by_cases c51 : x.toInt < 0 ∨ 2 < x.toInt
  · refine r_swO (tgt := 58) dX11_bounds_1 rfl c51 ?_
    refine r_iconst (v := (-1)) rfl dX11_bounds_58 (by decide) ?_
    exact r_ret dX11_bounds_59 (rt_i rfl) ⟨⟨_, rfl⟩, fun _ _ => rfl⟩
  · have c51a : ¬ x.toInt < 0 := fun z => c51 (Or.inl z)
    have c51b : ¬ 2 < x.toInt := fun z => c51 (Or.inr z)
    rcases (show x.toInt = 0 ∨ x.toInt = 1 ∨ x.toInt = 2 by omega) with c51e | c51e | c51e
    · refine r_swI (off := 27) (tgt := 28) dX11_bounds_1 rfl c51a c51b (by rw [c51e]; rfl) ?_
      refine r_aload_n rfl dX11_bounds_28 rfl ?_
      refine r_getv 3 rfl dX11_bounds_29 (show 2 ≤ 2 ∧ 2 < 434 by decide) h2 fl_X11_32 rfl ?_
      obtain ⟨y53, y54, y55, y56, f52⟩ := hS.o13
      refine r_getv 2 rfl dX11_bounds_32 (show 2 ≤ 13 ∧ 13 < 434 by decide) f52 fl_X11_177 rfl ?_
      obtain ⟨g58, hw59⟩ := hS.ws wsAt_18
      refine cl_X11_142 rfl rfl dX11_bounds_35 (show 2 ≤ 18 ∧ 18 < 434 by decide).1 (show 2 ≤ 18 ∧ 18 < 434 by decide).2 hw59.2.2.1 (Nat.le_of_ble_eq_true rfl) (s_X10_size hw59) ?_
      rintro _ h60 _ ⟨rfl, e61, rfl⟩
      replace e61 := e61.symm
      subst e61
      exact r_ret dX11_bounds_38 (rt_i rfl) ⟨⟨_, rfl⟩, fun _ _ => rfl⟩
    · refine r_swI (off := 38) (tgt := 39) dX11_bounds_1 rfl c51a c51b (by rw [c51e]; rfl) ?_
      refine r_aload_n rfl dX11_bounds_39 rfl ?_
      refine r_getv 3 rfl dX11_bounds_40 (show 2 ≤ 2 ∧ 2 < 434 by decide) h2 fl_X11_32 rfl ?_
      obtain ⟨y63, y64, y65, y66, f62⟩ := hS.o13
      refine r_getv 3 rfl dX11_bounds_43 (show 2 ≤ 13 ∧ 13 < 434 by decide) f62 fl_X11_180 rfl ?_
      obtain ⟨g68, hw69⟩ := hS.ws wsAt_20
      refine cl_X11_142 rfl rfl dX11_bounds_46 (show 2 ≤ 20 ∧ 20 < 434 by decide).1 (show 2 ≤ 20 ∧ 20 < 434 by decide).2 hw69.2.2.1 (Nat.le_of_ble_eq_true rfl) (s_X10_size hw69) ?_
      rintro _ h70 _ ⟨rfl, e71, rfl⟩
      replace e71 := e71.symm
      subst e71
      exact r_ret dX11_bounds_49 (rt_i rfl) ⟨⟨_, rfl⟩, fun _ _ => rfl⟩
    · refine r_swI (off := 49) (tgt := 50) dX11_bounds_1 rfl c51a c51b (by rw [c51e]; rfl) ?_
      refine r_aload_n rfl dX11_bounds_50 rfl ?_
      refine r_getv 3 rfl dX11_bounds_51 (show 2 ≤ 2 ∧ 2 < 434 by decide) h2 fl_X11_32 rfl ?_
      obtain ⟨y73, y74, y75, y76, f72⟩ := hS.o13
      refine cl_X11_183 rfl rfl dX11_bounds_54 (show 2 ≤ 13 ∧ 13 < 434 by decide).1 (show 2 ≤ 13 ∧ 13 < 434 by decide).2 f72 (Nat.le_of_ble_eq_true rfl) ((s_X7_freeChoices hS ).shB hS (okl_c (vr_r (show RB 13 from Or.inr ⟨by decide, by decide, by decide⟩)) (okl_o okl_n))) ?_
      rintro _ h77 _ ⟨⟨x80, rfl⟩, rfl, hS78, hk79⟩
      have p81 : h77 2 = .inr (11, [.ref 3, .ref 5, .ref 12, .ref 13, .ref 24, .ref 93, .ref 95, .ref 96, .ref 97, .ref 98, .ref 99, .int cc, .int lc, .int sc, .int wr, .int el]) := by rw [hk79 2 (RB_n (by decide) (by decide))]; exact h2
      exact r_ret dX11_bounds_57 (rt_i rfl) ⟨⟨_, rfl⟩, fun k z => hk79 k z⟩
set_option maxRecDepth 20000 in
theorem s_X11_fewest {xs : Nat → Int32} {L d : Nat} {h : ev_H} (hS : SH h) {cc lc sc wr el : Int32} (h2 : h 2 = c2 cc lc sc wr el) {x : Int32}  : EV xs L (d + 6) 0 0 M_X11_fewest 434 h 0 [some (.ref 2), some (.int x)] [] (fun sz' h' r => (∃ x : Int32, r = [.int x]) ∧ KB h h') := by
  refine r_iload_n rfl dX11_fewest_0 rfl ?_
  refine r_if_lt (tgt := 9) rfl rfl dX11_fewest_1 (fun c51 => ?_) (fun c51 => ?_)
  · refine r_iconst (v := (-1)) rfl dX11_fewest_9 (by decide) ?_
    refine r_goto (pc' := 24) rfl dX11_fewest_10 ?_
    exact r_ret dX11_fewest_24 (rt_i rfl) ⟨⟨_, rfl⟩, fun _ _ => rfl⟩
  · refine r_iload_n rfl dX11_fewest_4 rfl ?_
    refine r_iconst (v := 1) rfl dX11_fewest_5 (by decide) ?_
    refine r_icmp_le (tgt := 13) rfl rfl dX11_fewest_6 (fun c52 => ?_) (fun c52 => ?_)
    · refine r_iload_n rfl dX11_fewest_13 rfl ?_
      refine r_aload_n rfl dX11_fewest_14 rfl ?_
      refine r_getv 3 rfl dX11_fewest_15 (show 2 ≤ 2 ∧ 2 < 434 by decide) h2 fl_X11_32 rfl ?_
      obtain ⟨y54, y55, y56, y57, f53⟩ := hS.o13
      refine cl_X11_186 rfl rfl dX11_fewest_18 (show 2 ≤ 13 ∧ 13 < 434 by decide).1 (show 2 ≤ 13 ∧ 13 < 434 by decide).2 f53 (Nat.le_of_ble_eq_true rfl) ((s_X7_fewestLetters hS ).shB hS (okl_c (vr_r (show RB 13 from Or.inr ⟨by decide, by decide, by decide⟩)) okl_n)) ?_
      rintro _ h58 _ ⟨⟨x61, rfl⟩, rfl, hS59, hk60⟩
      have p62 : h58 2 = .inr (11, [.ref 3, .ref 5, .ref 12, .ref 13, .ref 24, .ref 93, .ref 95, .ref 96, .ref 97, .ref 98, .ref 99, .int cc, .int lc, .int sc, .int wr, .int el]) := by rw [hk60 2 (RB_n (by decide) (by decide))]; exact h2
      refine cl_X11_189 rfl rfl dX11_fewest_21 (Nat.le_of_ble_eq_true rfl) s_X11_sizeOrSet ?_
      rintro _ h63 _ ⟨rfl, e64, rfl⟩
      replace e64 := e64.symm
      subst e64
      exact r_ret dX11_fewest_24 (rt_i rfl) ⟨⟨_, rfl⟩, fun k z => hk60 k z⟩
    · refine r_iconst (v := (-1)) rfl dX11_fewest_9 (by decide) ?_
      refine r_goto (pc' := 24) rfl dX11_fewest_10 ?_
      exact r_ret dX11_fewest_24 (rt_i rfl) ⟨⟨_, rfl⟩, fun _ _ => rfl⟩
set_option maxRecDepth 20000 in
theorem s_X11_check {xs : Nat → Int32} {L d : Nat} {h : ev_H} (hS : SH h) {cc lc sc wr el : Int32} (h2 : h 2 = c2 cc lc sc wr el)   : EV xs L (d + 4) 0 0 M_X11_check 434 h 0 [some (.ref 2)] [] (fun sz' h' r => (∃ x : Int32, r = [.int x]) ∧ KB h h') := by
  refine r_aload_n rfl dX11_check_0 rfl ?_
  refine r_getv 3 rfl dX11_check_1 (show 2 ≤ 2 ∧ 2 < 434 by decide) h2 fl_X11_32 rfl ?_
  refine r_aload_n rfl dX11_check_4 rfl ?_
  refine r_getv 5 rfl dX11_check_5 (show 2 ≤ 2 ∧ 2 < 434 by decide) h2 fl_X11_46 rfl ?_
  obtain ⟨y52, y53, y54, y55, f51⟩ := hS.o13
  refine cl_X11_164 rfl rfl dX11_check_8 (show 2 ≤ 13 ∧ 13 < 434 by decide).1 (show 2 ≤ 13 ∧ 13 < 434 by decide).2 f51 (Nat.le_of_ble_eq_true rfl) ((s_X7_judge hS wsAt_93).shB hS (okl_c (vr_r (show RB 13 from Or.inr ⟨by decide, by decide, by decide⟩)) (okl_c (vr_r (show RB 93 from Or.inr ⟨by decide, by decide, by decide⟩)) okl_n))) ?_
  rintro _ h56 _ ⟨⟨x59, rfl⟩, rfl, hS57, hk58⟩
  have p60 : h56 2 = .inr (11, [.ref 3, .ref 5, .ref 12, .ref 13, .ref 24, .ref 93, .ref 95, .ref 96, .ref 97, .ref 98, .ref 99, .int cc, .int lc, .int sc, .int wr, .int el]) := by rw [hk58 2 (RB_n (by decide) (by decide))]; exact h2
  exact r_ret dX11_check_11 (rt_i rfl) ⟨⟨_, rfl⟩, fun k z => hk58 k z⟩
set_option maxRecDepth 20000 in
theorem s_X11_trace {xs : Nat → Int32} {L d : Nat} {h : ev_H} (hS : SH h) {cc lc sc wr el : Int32} (h2 : h 2 = c2 cc lc sc wr el)   : EV xs L (d + 1) 0 0 M_X11_trace 434 h 0 [some (.ref 2)] [] (fun sz' h' r => (∃ x : Int64, r = [.long x]) ∧ KB h h') := by
  refine r_aload_n rfl dX11_trace_0 rfl ?_
  refine r_getv 6 rfl dX11_trace_1 (show 2 ≤ 2 ∧ 2 < 434 by decide) h2 fl_X11_53 rfl ?_
  obtain ⟨y52, f51⟩ := hS.o95
  refine cl_X11_222 rfl rfl dX11_trace_4 (show 2 ≤ 95 ∧ 95 < 434 by decide).1 (show 2 ≤ 95 ∧ 95 < 434 by decide).2 f51 (Nat.le_of_ble_eq_true rfl) ((s_X9_sum hS ).shB hS (okl_c (vr_r (show RB 95 from Or.inr ⟨by decide, by decide, by decide⟩)) okl_n)) ?_
  rintro _ h53 _ ⟨⟨x56, rfl⟩, rfl, hS54, hk55⟩
  have p57 : h53 2 = .inr (11, [.ref 3, .ref 5, .ref 12, .ref 13, .ref 24, .ref 93, .ref 95, .ref 96, .ref 97, .ref 98, .ref 99, .int cc, .int lc, .int sc, .int wr, .int el]) := by rw [hk55 2 (RB_n (by decide) (by decide))]; exact h2
  exact r_ret dX11_trace_7 (rt_l rfl) ⟨⟨_, rfl⟩, fun k z => hk55 k z⟩
set_option maxRecDepth 20000 in
theorem s_X11_labour {xs : Nat → Int32} {L d : Nat} {h : ev_H} (hS : SH h) {cc lc sc wr el : Int32} (h2 : h 2 = c2 cc lc sc wr el) {x y : Int32}  : EV xs L (d + 5) 0 0 M_X11_labour 434 h 0 [some (.ref 2), some (.int x), some (.int y), none, none] [] (fun sz' h' r => (∃ x : Int32, r = [.int x]) ∧ KB h h') := by
  refine r_aload_n rfl dX11_labour_0 rfl ?_
  refine r_iload_n rfl dX11_labour_1 rfl ?_
  refine cl_X11_203 rfl rfl dX11_labour_2 (show 2 ≤ 2 ∧ 2 < 434 by decide).1 (show 2 ≤ 2 ∧ 2 < 434 by decide).2 h2 (Nat.le_of_ble_eq_true rfl) (s_X11_ruleOf hS h2) ?_
  rintro _ h51 _ ⟨rfl, e54, H53⟩
  replace e54 := e54.symm
  subst e54
  rcases H53 with rfl | rfl | rfl | rfl | rfl
  · refine r_astore_nN (ls' := [some (.ref 2), some (.int x), some (.int y), some (.null), none]) rfl dX11_labour_5 (Nat.le_of_ble_eq_true rfl) rfl ?_
    refine r_aload_n rfl dX11_labour_6 rfl ?_
    refine r_iload_n rfl dX11_labour_7 rfl ?_
    refine cl_X11_121 rfl rfl dX11_labour_8 (show 2 ≤ 2 ∧ 2 < 434 by decide).1 (show 2 ≤ 2 ∧ 2 < 434 by decide).2 h2 (Nat.le_of_ble_eq_true rfl) (s_X11_lineAt hS h2) ?_
    rintro _ h55 _ ⟨rfl, e58, H57⟩
    replace e58 := e58.symm
    subst e58
    rcases H57 with rfl | ⟨n59, hn60, rfl⟩
    · refine r_astoreN (ls' := [some (.ref 2), some (.int x), some (.int y), some (.null), some (.null)]) rfl dX11_labour_11 (Nat.le_of_ble_eq_true rfl) rfl ?_
      refine r_aload_nN rfl dX11_labour_13 rfl ?_
      refine r_ifnullN (tgt := 22) rfl dX11_labour_14 ?_
      refine r_iconst (v := (-1)) rfl dX11_labour_22 (by decide) ?_
      refine r_goto (pc' := 36) rfl dX11_labour_23 ?_
      exact r_ret dX11_labour_36 (rt_i rfl) ⟨⟨_, rfl⟩, fun _ _ => rfl⟩
    · refine r_astore (ls' := [some (.ref 2), some (.int x), some (.int y), some (.null), some (.ref (100 + 8 * n59))]) rfl dX11_labour_11 (Nat.le_of_ble_eq_true rfl) rfl ?_
      refine r_aload_nN rfl dX11_labour_13 rfl ?_
      refine r_ifnullN (tgt := 22) rfl dX11_labour_14 ?_
      refine r_iconst (v := (-1)) rfl dX11_labour_22 (by decide) ?_
      refine r_goto (pc' := 36) rfl dX11_labour_23 ?_
      exact r_ret dX11_labour_36 (rt_i rfl) ⟨⟨_, rfl⟩, fun _ _ => rfl⟩
  · refine r_astore_n (ls' := [some (.ref 2), some (.int x), some (.int y), some (.ref 96), none]) rfl dX11_labour_5 (Nat.le_of_ble_eq_true rfl) rfl ?_
    refine r_aload_n rfl dX11_labour_6 rfl ?_
    refine r_iload_n rfl dX11_labour_7 rfl ?_
    refine cl_X11_121 rfl rfl dX11_labour_8 (show 2 ≤ 2 ∧ 2 < 434 by decide).1 (show 2 ≤ 2 ∧ 2 < 434 by decide).2 h2 (Nat.le_of_ble_eq_true rfl) (s_X11_lineAt hS h2) ?_
    rintro _ h61 _ ⟨rfl, e64, H63⟩
    replace e64 := e64.symm
    subst e64
    rcases H63 with rfl | ⟨n65, hn66, rfl⟩
    · refine r_astoreN (ls' := [some (.ref 2), some (.int x), some (.int y), some (.ref 96), some (.null)]) rfl dX11_labour_11 (Nat.le_of_ble_eq_true rfl) rfl ?_
      refine r_aload_n rfl dX11_labour_13 rfl ?_
      refine r_ifnull rfl (by decide) dX11_labour_14 ?_
      refine r_aloadN rfl dX11_labour_17 rfl ?_
      refine r_ifnonnullN rfl (by decide) dX11_labour_19 ?_
      refine r_iconst (v := (-1)) rfl dX11_labour_22 (by decide) ?_
      refine r_goto (pc' := 36) rfl dX11_labour_23 ?_
      exact r_ret dX11_labour_36 (rt_i rfl) ⟨⟨_, rfl⟩, fun _ _ => rfl⟩
    · refine r_astore (ls' := [some (.ref 2), some (.int x), some (.int y), some (.ref 96), some (.ref (100 + 8 * n65))]) rfl dX11_labour_11 (Nat.le_of_ble_eq_true rfl) rfl ?_
      refine r_aload_n rfl dX11_labour_13 rfl ?_
      refine r_ifnull rfl (by decide) dX11_labour_14 ?_
      refine r_aload rfl dX11_labour_17 rfl ?_
      refine r_ifnonnull (tgt := 26) rfl dX11_labour_19 ?_
      refine r_aload_n rfl dX11_labour_26 rfl ?_
      refine r_aload rfl dX11_labour_27 rfl ?_
      refine r_aload_n rfl dX11_labour_29 rfl ?_
      refine r_getv 6 rfl dX11_labour_30 (show 2 ≤ 2 ∧ 2 < 434 by decide) h2 fl_X11_53 rfl ?_
      refine cl_X11_207 rfl rfl dX11_labour_33 (show 2 ≤ 96 ∧ 96 < 434 by decide).1 (show 2 ≤ 96 ∧ 96 < 434 by decide).2 hS.o96 (Nat.le_of_ble_eq_true rfl) ((s_X6_work hS hn66).shB hS (okl_c (vr_r (show RB 96 from Or.inr ⟨by decide, by decide, by decide⟩)) (okl_c (vr_r (show RB (100 + 8 * n65) from Or.inr ⟨by omega, by omega, by omega⟩)) (okl_c (vr_r (show RB 95 from Or.inr ⟨by decide, by decide, by decide⟩)) okl_n)))) ?_
      rintro _ h68 _ ⟨⟨x71, rfl⟩, rfl, hS69, hk70⟩
      have p72 : h68 2 = .inr (11, [.ref 3, .ref 5, .ref 12, .ref 13, .ref 24, .ref 93, .ref 95, .ref 96, .ref 97, .ref 98, .ref 99, .int cc, .int lc, .int sc, .int wr, .int el]) := by rw [hk70 2 (RB_n (by decide) (by decide))]; exact h2
      exact r_ret dX11_labour_36 (rt_i rfl) ⟨⟨_, rfl⟩, fun k z => hk70 k z⟩
  · refine r_astore_n (ls' := [some (.ref 2), some (.int x), some (.int y), some (.ref 97), none]) rfl dX11_labour_5 (Nat.le_of_ble_eq_true rfl) rfl ?_
    refine r_aload_n rfl dX11_labour_6 rfl ?_
    refine r_iload_n rfl dX11_labour_7 rfl ?_
    refine cl_X11_121 rfl rfl dX11_labour_8 (show 2 ≤ 2 ∧ 2 < 434 by decide).1 (show 2 ≤ 2 ∧ 2 < 434 by decide).2 h2 (Nat.le_of_ble_eq_true rfl) (s_X11_lineAt hS h2) ?_
    rintro _ h73 _ ⟨rfl, e76, H75⟩
    replace e76 := e76.symm
    subst e76
    rcases H75 with rfl | ⟨n77, hn78, rfl⟩
    · refine r_astoreN (ls' := [some (.ref 2), some (.int x), some (.int y), some (.ref 97), some (.null)]) rfl dX11_labour_11 (Nat.le_of_ble_eq_true rfl) rfl ?_
      refine r_aload_n rfl dX11_labour_13 rfl ?_
      refine r_ifnull rfl (by decide) dX11_labour_14 ?_
      refine r_aloadN rfl dX11_labour_17 rfl ?_
      refine r_ifnonnullN rfl (by decide) dX11_labour_19 ?_
      refine r_iconst (v := (-1)) rfl dX11_labour_22 (by decide) ?_
      refine r_goto (pc' := 36) rfl dX11_labour_23 ?_
      exact r_ret dX11_labour_36 (rt_i rfl) ⟨⟨_, rfl⟩, fun _ _ => rfl⟩
    · refine r_astore (ls' := [some (.ref 2), some (.int x), some (.int y), some (.ref 97), some (.ref (100 + 8 * n77))]) rfl dX11_labour_11 (Nat.le_of_ble_eq_true rfl) rfl ?_
      refine r_aload_n rfl dX11_labour_13 rfl ?_
      refine r_ifnull rfl (by decide) dX11_labour_14 ?_
      refine r_aload rfl dX11_labour_17 rfl ?_
      refine r_ifnonnull (tgt := 26) rfl dX11_labour_19 ?_
      refine r_aload_n rfl dX11_labour_26 rfl ?_
      refine r_aload rfl dX11_labour_27 rfl ?_
      refine r_aload_n rfl dX11_labour_29 rfl ?_
      refine r_getv 6 rfl dX11_labour_30 (show 2 ≤ 2 ∧ 2 < 434 by decide) h2 fl_X11_53 rfl ?_
      refine cl_X11_207_X2 rfl rfl dX11_labour_33 (show 2 ≤ 97 ∧ 97 < 434 by decide).1 (show 2 ≤ 97 ∧ 97 < 434 by decide).2 hS.o97 (Nat.le_of_ble_eq_true rfl) ((s_X2_work hS hn78 (show 2 ≤ 97 ∧ 97 < 434 by decide) (q := (RX2, TX2, 0)) rfl (fun _ z => z.o97)).shB hS (okl_c (vr_r (show RB 97 from Or.inr ⟨by decide, by decide, by decide⟩)) (okl_c (vr_r (show RB (100 + 8 * n77) from Or.inr ⟨by omega, by omega, by omega⟩)) (okl_c (vr_r (show RB 95 from Or.inr ⟨by decide, by decide, by decide⟩)) okl_n)))) ?_
      rintro _ h80 _ ⟨⟨x83, rfl⟩, rfl, hS81, hk82⟩
      have p84 : h80 2 = .inr (11, [.ref 3, .ref 5, .ref 12, .ref 13, .ref 24, .ref 93, .ref 95, .ref 96, .ref 97, .ref 98, .ref 99, .int cc, .int lc, .int sc, .int wr, .int el]) := by rw [hk82 2 (RB_n (by decide) (by decide))]; exact h2
      exact r_ret dX11_labour_36 (rt_i rfl) ⟨⟨_, rfl⟩, fun k z => hk82 k z⟩
  · refine r_astore_n (ls' := [some (.ref 2), some (.int x), some (.int y), some (.ref 98), none]) rfl dX11_labour_5 (Nat.le_of_ble_eq_true rfl) rfl ?_
    refine r_aload_n rfl dX11_labour_6 rfl ?_
    refine r_iload_n rfl dX11_labour_7 rfl ?_
    refine cl_X11_121 rfl rfl dX11_labour_8 (show 2 ≤ 2 ∧ 2 < 434 by decide).1 (show 2 ≤ 2 ∧ 2 < 434 by decide).2 h2 (Nat.le_of_ble_eq_true rfl) (s_X11_lineAt hS h2) ?_
    rintro _ h85 _ ⟨rfl, e88, H87⟩
    replace e88 := e88.symm
    subst e88
    rcases H87 with rfl | ⟨n89, hn90, rfl⟩
    · refine r_astoreN (ls' := [some (.ref 2), some (.int x), some (.int y), some (.ref 98), some (.null)]) rfl dX11_labour_11 (Nat.le_of_ble_eq_true rfl) rfl ?_
      refine r_aload_n rfl dX11_labour_13 rfl ?_
      refine r_ifnull rfl (by decide) dX11_labour_14 ?_
      refine r_aloadN rfl dX11_labour_17 rfl ?_
      refine r_ifnonnullN rfl (by decide) dX11_labour_19 ?_
      refine r_iconst (v := (-1)) rfl dX11_labour_22 (by decide) ?_
      refine r_goto (pc' := 36) rfl dX11_labour_23 ?_
      exact r_ret dX11_labour_36 (rt_i rfl) ⟨⟨_, rfl⟩, fun _ _ => rfl⟩
    · refine r_astore (ls' := [some (.ref 2), some (.int x), some (.int y), some (.ref 98), some (.ref (100 + 8 * n89))]) rfl dX11_labour_11 (Nat.le_of_ble_eq_true rfl) rfl ?_
      refine r_aload_n rfl dX11_labour_13 rfl ?_
      refine r_ifnull rfl (by decide) dX11_labour_14 ?_
      refine r_aload rfl dX11_labour_17 rfl ?_
      refine r_ifnonnull (tgt := 26) rfl dX11_labour_19 ?_
      refine r_aload_n rfl dX11_labour_26 rfl ?_
      refine r_aload rfl dX11_labour_27 rfl ?_
      refine r_aload_n rfl dX11_labour_29 rfl ?_
      refine r_getv 6 rfl dX11_labour_30 (show 2 ≤ 2 ∧ 2 < 434 by decide) h2 fl_X11_53 rfl ?_
      refine cl_X11_207_X5 rfl rfl dX11_labour_33 (show 2 ≤ 98 ∧ 98 < 434 by decide).1 (show 2 ≤ 98 ∧ 98 < 434 by decide).2 hS.o98 (Nat.le_of_ble_eq_true rfl) ((s_X5_work hS hn90 (show 2 ≤ 98 ∧ 98 < 434 by decide) (q := (RX5, TX5, 0)) rfl (fun _ z => z.o98)).shB hS (okl_c (vr_r (show RB 98 from Or.inr ⟨by decide, by decide, by decide⟩)) (okl_c (vr_r (show RB (100 + 8 * n89) from Or.inr ⟨by omega, by omega, by omega⟩)) (okl_c (vr_r (show RB 95 from Or.inr ⟨by decide, by decide, by decide⟩)) okl_n)))) ?_
      rintro _ h92 _ ⟨⟨x95, rfl⟩, rfl, hS93, hk94⟩
      have p96 : h92 2 = .inr (11, [.ref 3, .ref 5, .ref 12, .ref 13, .ref 24, .ref 93, .ref 95, .ref 96, .ref 97, .ref 98, .ref 99, .int cc, .int lc, .int sc, .int wr, .int el]) := by rw [hk94 2 (RB_n (by decide) (by decide))]; exact h2
      exact r_ret dX11_labour_36 (rt_i rfl) ⟨⟨_, rfl⟩, fun k z => hk94 k z⟩
  · refine r_astore_n (ls' := [some (.ref 2), some (.int x), some (.int y), some (.ref 99), none]) rfl dX11_labour_5 (Nat.le_of_ble_eq_true rfl) rfl ?_
    refine r_aload_n rfl dX11_labour_6 rfl ?_
    refine r_iload_n rfl dX11_labour_7 rfl ?_
    refine cl_X11_121 rfl rfl dX11_labour_8 (show 2 ≤ 2 ∧ 2 < 434 by decide).1 (show 2 ≤ 2 ∧ 2 < 434 by decide).2 h2 (Nat.le_of_ble_eq_true rfl) (s_X11_lineAt hS h2) ?_
    rintro _ h97 _ ⟨rfl, e100, H99⟩
    replace e100 := e100.symm
    subst e100
    rcases H99 with rfl | ⟨n101, hn102, rfl⟩
    · refine r_astoreN (ls' := [some (.ref 2), some (.int x), some (.int y), some (.ref 99), some (.null)]) rfl dX11_labour_11 (Nat.le_of_ble_eq_true rfl) rfl ?_
      refine r_aload_n rfl dX11_labour_13 rfl ?_
      refine r_ifnull rfl (by decide) dX11_labour_14 ?_
      refine r_aloadN rfl dX11_labour_17 rfl ?_
      refine r_ifnonnullN rfl (by decide) dX11_labour_19 ?_
      refine r_iconst (v := (-1)) rfl dX11_labour_22 (by decide) ?_
      refine r_goto (pc' := 36) rfl dX11_labour_23 ?_
      exact r_ret dX11_labour_36 (rt_i rfl) ⟨⟨_, rfl⟩, fun _ _ => rfl⟩
    · refine r_astore (ls' := [some (.ref 2), some (.int x), some (.int y), some (.ref 99), some (.ref (100 + 8 * n101))]) rfl dX11_labour_11 (Nat.le_of_ble_eq_true rfl) rfl ?_
      refine r_aload_n rfl dX11_labour_13 rfl ?_
      refine r_ifnull rfl (by decide) dX11_labour_14 ?_
      refine r_aload rfl dX11_labour_17 rfl ?_
      refine r_ifnonnull (tgt := 26) rfl dX11_labour_19 ?_
      refine r_aload_n rfl dX11_labour_26 rfl ?_
      refine r_aload rfl dX11_labour_27 rfl ?_
      refine r_aload_n rfl dX11_labour_29 rfl ?_
      refine r_getv 6 rfl dX11_labour_30 (show 2 ≤ 2 ∧ 2 < 434 by decide) h2 fl_X11_53 rfl ?_
      refine cl_X11_207_X1 rfl rfl dX11_labour_33 (show 2 ≤ 99 ∧ 99 < 434 by decide).1 (show 2 ≤ 99 ∧ 99 < 434 by decide).2 hS.o99 (Nat.le_of_ble_eq_true rfl) ((s_X1_work hS hn102 (show 2 ≤ 99 ∧ 99 < 434 by decide) (q := (RX1, TX1, 0)) rfl (fun _ z => z.o99)).shB hS (okl_c (vr_r (show RB 99 from Or.inr ⟨by decide, by decide, by decide⟩)) (okl_c (vr_r (show RB (100 + 8 * n101) from Or.inr ⟨by omega, by omega, by omega⟩)) (okl_c (vr_r (show RB 95 from Or.inr ⟨by decide, by decide, by decide⟩)) okl_n)))) ?_
      rintro _ h104 _ ⟨⟨x107, rfl⟩, rfl, hS105, hk106⟩
      have p108 : h104 2 = .inr (11, [.ref 3, .ref 5, .ref 12, .ref 13, .ref 24, .ref 93, .ref 95, .ref 96, .ref 97, .ref 98, .ref 99, .int cc, .int lc, .int sc, .int wr, .int el]) := by rw [hk106 2 (RB_n (by decide) (by decide))]; exact h2
      exact r_ret dX11_labour_36 (rt_i rfl) ⟨⟨_, rfl⟩, fun k z => hk106 k z⟩
set_option maxRecDepth 20000 in
theorem s_X11_tell {xs : Nat → Int32} {L d : Nat} {h : ev_H} (hS : SH h) {cc lc sc wr el : Int32} (h2 : h 2 = c2 cc lc sc wr el) {x y : Int32}  : EV xs L (d + 2) 0 0 M_X11_tell 434 h 0 [some (.ref 2), some (.int x), some (.int y), none] [] (fun sz' h' r => (∃ x : Int32, r = [.int x]) ∧ KB h h') := by
  refine r_iload_n rfl dX11_tell_0 rfl ?_
  refine cl_X11_132 rfl rfl dX11_tell_1 (Nat.le_of_ble_eq_true rfl) s_X11_isWorld ?_
  rintro _ h51 _ ⟨rfl, e52, rfl⟩
  replace e52 := e52.symm
  subst e52
  refine r_if_eq (tgt := 16) rfl rfl dX11_tell_4 (fun c53 => ?_) (fun c53 => ?_)
  · refine r_iconst (v := (-1)) rfl dX11_tell_16 (by decide) ?_
    exact r_ret dX11_tell_17 (rt_i rfl) ⟨⟨_, rfl⟩, fun _ _ => rfl⟩
  · refine r_iload_n rfl dX11_tell_7 rfl ?_
    refine r_if_lt (tgt := 16) rfl rfl dX11_tell_8 (fun c54 => ?_) (fun c54 => ?_)
    · refine r_iconst (v := (-1)) rfl dX11_tell_16 (by decide) ?_
      exact r_ret dX11_tell_17 (rt_i rfl) ⟨⟨_, rfl⟩, fun _ _ => rfl⟩
    · refine r_iload_n rfl dX11_tell_11 rfl ?_
      refine r_iconst (v := 1) rfl dX11_tell_12 (by decide) ?_
      refine r_icmp_le (tgt := 18) rfl rfl dX11_tell_13 (fun c55 => ?_) (fun c55 => ?_)
      · refine r_aload_n rfl dX11_tell_18 rfl ?_
        refine r_getv 5 rfl dX11_tell_19 (show 2 ≤ 2 ∧ 2 < 434 by decide) h2 fl_X11_46 rfl ?_
        refine r_iload_n rfl dX11_tell_22 rfl ?_
        obtain ⟨g57, hw58⟩ := hS.ws wsAt_93
        refine cl_X11_157 rfl rfl dX11_tell_23 (show 2 ≤ 93 ∧ 93 < 434 by decide).1 (show 2 ≤ 93 ∧ 93 < 434 by decide).2 hw58.2.2.1 (Nat.le_of_ble_eq_true rfl) (s_X10_has hw58) ?_
        rintro _ h59 _ ⟨rfl, e60, rfl⟩
        replace e60 := e60.symm
        subst e60
        refine r_if_eq (tgt := 33) rfl rfl dX11_tell_26 (fun c61 => ?_) (fun c61 => ?_)
        · refine r_iconst (v := 0) rfl dX11_tell_33 (by decide) ?_
          refine r_istore_n (ls' := [some (.ref 2), some (.int x), some (.int y), some (.int 0)]) rfl dX11_tell_34 (Nat.le_of_ble_eq_true rfl) rfl ?_
          refine r_aload_n rfl dX11_tell_35 rfl ?_
          refine r_getv 5 rfl dX11_tell_36 (show 2 ≤ 2 ∧ 2 < 434 by decide) h2 fl_X11_46 rfl ?_
          refine r_iload_n rfl dX11_tell_39 rfl ?_
          refine r_iload_n rfl dX11_tell_40 rfl ?_
          refine r_iconst (v := 1) rfl dX11_tell_41 (by decide) ?_
          refine r_icmp_ne (tgt := 49) rfl rfl dX11_tell_42 (fun c62 => ?_) (fun c62 => ?_)
          · refine r_iconst (v := 0) rfl dX11_tell_49 (by decide) ?_
            refine cl_X11_193 rfl rfl dX11_tell_50 (show 2 ≤ 93 ∧ 93 < 434 by decide).1 (show 2 ≤ 93 ∧ 93 < 434 by decide).2 hw58.2.2.1 (Nat.le_of_ble_eq_true rfl) ((s_X10_put hw58).shB hS (okl_c (vr_r (show RB 93 from Or.inr ⟨by decide, by decide, by decide⟩)) (okl_c (vr_i _) (okl_c (vr_i _) (okl_o (okl_o okl_n)))))) ?_
            rintro _ h63 _ ⟨⟨rfl, -, rfl⟩, -, hS64, hk65⟩
            have p66 : h63 2 = .inr (11, [.ref 3, .ref 5, .ref 12, .ref 13, .ref 24, .ref 93, .ref 95, .ref 96, .ref 97, .ref 98, .ref 99, .int cc, .int lc, .int sc, .int wr, .int el]) := by rw [hk65 2 (RB_n (by decide) (by decide))]; exact h2
            refine r_iload_n rfl dX11_tell_53 rfl ?_
            exact r_ret dX11_tell_54 (rt_i rfl) ⟨⟨_, rfl⟩, fun k z => hk65 k z⟩
          · refine r_iconst (v := 1) rfl dX11_tell_45 (by decide) ?_
            refine r_goto (pc' := 50) rfl dX11_tell_46 ?_
            refine cl_X11_193 rfl rfl dX11_tell_50 (show 2 ≤ 93 ∧ 93 < 434 by decide).1 (show 2 ≤ 93 ∧ 93 < 434 by decide).2 hw58.2.2.1 (Nat.le_of_ble_eq_true rfl) ((s_X10_put hw58).shB hS (okl_c (vr_r (show RB 93 from Or.inr ⟨by decide, by decide, by decide⟩)) (okl_c (vr_i _) (okl_c (vr_i _) (okl_o (okl_o okl_n)))))) ?_
            rintro _ h67 _ ⟨⟨rfl, -, rfl⟩, -, hS68, hk69⟩
            have p70 : h67 2 = .inr (11, [.ref 3, .ref 5, .ref 12, .ref 13, .ref 24, .ref 93, .ref 95, .ref 96, .ref 97, .ref 98, .ref 99, .int cc, .int lc, .int sc, .int wr, .int el]) := by rw [hk69 2 (RB_n (by decide) (by decide))]; exact h2
            refine r_iload_n rfl dX11_tell_53 rfl ?_
            exact r_ret dX11_tell_54 (rt_i rfl) ⟨⟨_, rfl⟩, fun k z => hk69 k z⟩
        · refine r_iconst (v := 1) rfl dX11_tell_29 (by decide) ?_
          refine r_goto (pc' := 34) rfl dX11_tell_30 ?_
          refine r_istore_n (ls' := [some (.ref 2), some (.int x), some (.int y), some (.int 1)]) rfl dX11_tell_34 (Nat.le_of_ble_eq_true rfl) rfl ?_
          refine r_aload_n rfl dX11_tell_35 rfl ?_
          refine r_getv 5 rfl dX11_tell_36 (show 2 ≤ 2 ∧ 2 < 434 by decide) h2 fl_X11_46 rfl ?_
          refine r_iload_n rfl dX11_tell_39 rfl ?_
          refine r_iload_n rfl dX11_tell_40 rfl ?_
          refine r_iconst (v := 1) rfl dX11_tell_41 (by decide) ?_
          refine r_icmp_ne (tgt := 49) rfl rfl dX11_tell_42 (fun c71 => ?_) (fun c71 => ?_)
          · refine r_iconst (v := 0) rfl dX11_tell_49 (by decide) ?_
            refine cl_X11_193 rfl rfl dX11_tell_50 (show 2 ≤ 93 ∧ 93 < 434 by decide).1 (show 2 ≤ 93 ∧ 93 < 434 by decide).2 hw58.2.2.1 (Nat.le_of_ble_eq_true rfl) ((s_X10_put hw58).shB hS (okl_c (vr_r (show RB 93 from Or.inr ⟨by decide, by decide, by decide⟩)) (okl_c (vr_i _) (okl_c (vr_i _) (okl_o (okl_o okl_n)))))) ?_
            rintro _ h72 _ ⟨⟨rfl, -, rfl⟩, -, hS73, hk74⟩
            have p75 : h72 2 = .inr (11, [.ref 3, .ref 5, .ref 12, .ref 13, .ref 24, .ref 93, .ref 95, .ref 96, .ref 97, .ref 98, .ref 99, .int cc, .int lc, .int sc, .int wr, .int el]) := by rw [hk74 2 (RB_n (by decide) (by decide))]; exact h2
            refine r_iload_n rfl dX11_tell_53 rfl ?_
            exact r_ret dX11_tell_54 (rt_i rfl) ⟨⟨_, rfl⟩, fun k z => hk74 k z⟩
          · refine r_iconst (v := 1) rfl dX11_tell_45 (by decide) ?_
            refine r_goto (pc' := 50) rfl dX11_tell_46 ?_
            refine cl_X11_193 rfl rfl dX11_tell_50 (show 2 ≤ 93 ∧ 93 < 434 by decide).1 (show 2 ≤ 93 ∧ 93 < 434 by decide).2 hw58.2.2.1 (Nat.le_of_ble_eq_true rfl) ((s_X10_put hw58).shB hS (okl_c (vr_r (show RB 93 from Or.inr ⟨by decide, by decide, by decide⟩)) (okl_c (vr_i _) (okl_c (vr_i _) (okl_o (okl_o okl_n)))))) ?_
            rintro _ h76 _ ⟨⟨rfl, -, rfl⟩, -, hS77, hk78⟩
            have p79 : h76 2 = .inr (11, [.ref 3, .ref 5, .ref 12, .ref 13, .ref 24, .ref 93, .ref 95, .ref 96, .ref 97, .ref 98, .ref 99, .int cc, .int lc, .int sc, .int wr, .int el]) := by rw [hk78 2 (RB_n (by decide) (by decide))]; exact h2
            refine r_iload_n rfl dX11_tell_53 rfl ?_
            exact r_ret dX11_tell_54 (rt_i rfl) ⟨⟨_, rfl⟩, fun k z => hk78 k z⟩
      · refine r_iconst (v := (-1)) rfl dX11_tell_16 (by decide) ?_
        exact r_ret dX11_tell_17 (rt_i rfl) ⟨⟨_, rfl⟩, fun _ _ => rfl⟩
