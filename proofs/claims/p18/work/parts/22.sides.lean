theorem dX7_sharedLetters_0 : decode cX7_sharedLetters 0 = .ok (.aload_n 0, 1) := by decide +kernel
theorem dX7_sharedLetters_1 : decode cX7_sharedLetters 1 = .ok (.getfield 33, 3) := by decide +kernel
theorem dX7_sharedLetters_4 : decode cX7_sharedLetters 4 = .ok (.aload_n 0, 1) := by decide +kernel
theorem dX7_sharedLetters_5 : decode cX7_sharedLetters 5 = .ok (.getfield 37, 3) := by decide +kernel
theorem dX7_sharedLetters_8 : decode cX7_sharedLetters 8 = .ok (.iand, 1) := by decide +kernel
theorem dX7_sharedLetters_9 : decode cX7_sharedLetters 9 = .ok (.ireturn, 1) := by decide +kernel
theorem dX7_ownerOf_0 : decode cX7_ownerOf 0 = .ok (.aload_n 0, 1) := by decide +kernel
theorem dX7_ownerOf_1 : decode cX7_ownerOf 1 = .ok (.getfield 33, 3) := by decide +kernel
theorem dX7_ownerOf_4 : decode cX7_ownerOf 4 = .ok (.iload_n 1, 1) := by decide +kernel
theorem dX7_ownerOf_5 : decode cX7_ownerOf 5 = .ok (.ishr, 1) := by decide +kernel
theorem dX7_ownerOf_6 : decode cX7_ownerOf 6 = .ok (.iconst 1, 1) := by decide +kernel
theorem dX7_ownerOf_7 : decode cX7_ownerOf 7 = .ok (.iand, 1) := by decide +kernel
theorem dX7_ownerOf_8 : decode cX7_ownerOf 8 = .ok (.istore_n 2, 1) := by decide +kernel
theorem dX7_ownerOf_9 : decode cX7_ownerOf 9 = .ok (.aload_n 0, 1) := by decide +kernel
theorem dX7_ownerOf_10 : decode cX7_ownerOf 10 = .ok (.getfield 37, 3) := by decide +kernel
theorem dX7_ownerOf_13 : decode cX7_ownerOf 13 = .ok (.iload_n 1, 1) := by decide +kernel
theorem dX7_ownerOf_14 : decode cX7_ownerOf 14 = .ok (.ishr, 1) := by decide +kernel
theorem dX7_ownerOf_15 : decode cX7_ownerOf 15 = .ok (.iconst 1, 1) := by decide +kernel
theorem dX7_ownerOf_16 : decode cX7_ownerOf 16 = .ok (.iand, 1) := by decide +kernel
theorem dX7_ownerOf_17 : decode cX7_ownerOf 17 = .ok (.istore_n 3, 1) := by decide +kernel
theorem dX7_ownerOf_18 : decode cX7_ownerOf 18 = .ok (.iconst 1, 1) := by decide +kernel
theorem dX7_ownerOf_19 : decode cX7_ownerOf 19 = .ok (.iload_n 2, 1) := by decide +kernel
theorem dX7_ownerOf_20 : decode cX7_ownerOf 20 = .ok (.imul, 1) := by decide +kernel
theorem dX7_ownerOf_21 : decode cX7_ownerOf 21 = .ok (.iconst 2, 1) := by decide +kernel
theorem dX7_ownerOf_22 : decode cX7_ownerOf 22 = .ok (.iload_n 3, 1) := by decide +kernel
theorem dX7_ownerOf_23 : decode cX7_ownerOf 23 = .ok (.imul, 1) := by decide +kernel
theorem dX7_ownerOf_24 : decode cX7_ownerOf 24 = .ok (.iadd, 1) := by decide +kernel
theorem dX7_ownerOf_25 : decode cX7_ownerOf 25 = .ok (.ireturn, 1) := by decide +kernel
theorem dX7_judge_0 : decode cX7_judge 0 = .ok (.aload_n 1, 1) := by decide +kernel
theorem dX7_judge_1 : decode cX7_judge 1 = .ok (.invokevirtual 74, 3) := by decide +kernel
theorem dX7_judge_4 : decode cX7_judge 4 = .ok (.aload_n 0, 1) := by decide +kernel
theorem dX7_judge_5 : decode cX7_judge 5 = .ok (.invokevirtual 60, 3) := by decide +kernel
theorem dX7_judge_8 : decode cX7_judge 8 = .ok (.iconst (-1), 1) := by decide +kernel
theorem dX7_judge_9 : decode cX7_judge 9 = .ok (.ixor, 1) := by decide +kernel
theorem dX7_judge_10 : decode cX7_judge 10 = .ok (.iand, 1) := by decide +kernel
theorem dX7_judge_11 : decode cX7_judge 11 = .ok (.ifCond .eq 5, 3) := by decide +kernel
theorem dX7_judge_14 : decode cX7_judge 14 = .ok (.iconst 1, 1) := by decide +kernel
theorem dX7_judge_15 : decode cX7_judge 15 = .ok (.ireturn, 1) := by decide +kernel
theorem dX7_judge_16 : decode cX7_judge 16 = .ok (.aload_n 0, 1) := by decide +kernel
theorem dX7_judge_17 : decode cX7_judge 17 = .ok (.getfield 12, 3) := by decide +kernel
theorem dX7_judge_20 : decode cX7_judge 20 = .ok (.aload_n 1, 1) := by decide +kernel
theorem dX7_judge_21 : decode cX7_judge 21 = .ok (.invokevirtual 77, 3) := by decide +kernel
theorem dX7_judge_24 : decode cX7_judge 24 = .ok (.ifCond .ne 5, 3) := by decide +kernel
theorem dX7_judge_27 : decode cX7_judge 27 = .ok (.iconst 2, 1) := by decide +kernel
theorem dX7_judge_28 : decode cX7_judge 28 = .ok (.ireturn, 1) := by decide +kernel
theorem dX7_judge_29 : decode cX7_judge 29 = .ok (.aload_n 0, 1) := by decide +kernel
theorem dX7_judge_30 : decode cX7_judge 30 = .ok (.getfield 18, 3) := by decide +kernel
theorem dX7_judge_33 : decode cX7_judge 33 = .ok (.aload_n 1, 1) := by decide +kernel
theorem dX7_judge_34 : decode cX7_judge 34 = .ok (.invokevirtual 81, 3) := by decide +kernel
theorem dX7_judge_37 : decode cX7_judge 37 = .ok (.ifCond .eq 7, 3) := by decide +kernel
theorem dX7_judge_40 : decode cX7_judge 40 = .ok (.iconst 3, 1) := by decide +kernel
theorem dX7_judge_41 : decode cX7_judge 41 = .ok (.goto 4, 3) := by decide +kernel
theorem dX7_judge_44 : decode cX7_judge 44 = .ok (.iconst 0, 1) := by decide +kernel
theorem dX7_judge_45 : decode cX7_judge 45 = .ok (.ireturn, 1) := by decide +kernel
theorem dX7_freeChoices_0 : decode cX7_freeChoices 0 = .ok (.aload_n 0, 1) := by decide +kernel
theorem dX7_freeChoices_1 : decode cX7_freeChoices 1 = .ok (.getfield 24, 3) := by decide +kernel
theorem dX7_freeChoices_4 : decode cX7_freeChoices 4 = .ok (.invokevirtual 85, 3) := by decide +kernel
theorem dX7_freeChoices_7 : decode cX7_freeChoices 7 = .ok (.aload_n 0, 1) := by decide +kernel
theorem dX7_freeChoices_8 : decode cX7_freeChoices 8 = .ok (.getfield 24, 3) := by decide +kernel
theorem dX7_freeChoices_11 : decode cX7_freeChoices 11 = .ok (.aload_n 0, 1) := by decide +kernel
theorem dX7_freeChoices_12 : decode cX7_freeChoices 12 = .ok (.getfield 21, 3) := by decide +kernel
theorem dX7_freeChoices_15 : decode cX7_freeChoices 15 = .ok (.invokevirtual 81, 3) := by decide +kernel
theorem dX7_freeChoices_18 : decode cX7_freeChoices 18 = .ok (.isub, 1) := by decide +kernel
theorem dX7_freeChoices_19 : decode cX7_freeChoices 19 = .ok (.istore_n 1, 1) := by decide +kernel
theorem dX7_freeChoices_20 : decode cX7_freeChoices 20 = .ok (.iload_n 1, 1) := by decide +kernel
theorem dX7_freeChoices_21 : decode cX7_freeChoices 21 = .ok (.bipush 8, 2) := by decide +kernel
theorem dX7_freeChoices_23 : decode cX7_freeChoices 23 = .ok (.aload_n 0, 1) := by decide +kernel
theorem dX7_freeChoices_24 : decode cX7_freeChoices 24 = .ok (.invokevirtual 60, 3) := by decide +kernel
theorem dX7_freeChoices_27 : decode cX7_freeChoices 27 = .ok (.invokestatic 88, 3) := by decide +kernel
theorem dX7_freeChoices_30 : decode cX7_freeChoices 30 = .ok (.isub, 1) := by decide +kernel
theorem dX7_freeChoices_31 : decode cX7_freeChoices 31 = .ok (.ishr, 1) := by decide +kernel
theorem dX7_freeChoices_32 : decode cX7_freeChoices 32 = .ok (.ireturn, 1) := by decide +kernel
theorem dX7_tellsApart_0 : decode cX7_tellsApart 0 = .ok (.aload_n 0, 1) := by decide +kernel
theorem dX7_tellsApart_1 : decode cX7_tellsApart 1 = .ok (.getfield 27, 3) := by decide +kernel
theorem dX7_tellsApart_4 : decode cX7_tellsApart 4 = .ok (.aload_n 0, 1) := by decide +kernel
theorem dX7_tellsApart_5 : decode cX7_tellsApart 5 = .ok (.getfield 12, 3) := by decide +kernel
theorem dX7_tellsApart_8 : decode cX7_tellsApart 8 = .ok (.invokevirtual 57, 3) := by decide +kernel
theorem dX7_tellsApart_11 : decode cX7_tellsApart 11 = .ok (.aload_n 0, 1) := by decide +kernel
theorem dX7_tellsApart_12 : decode cX7_tellsApart 12 = .ok (.getfield 27, 3) := by decide +kernel
theorem dX7_tellsApart_15 : decode cX7_tellsApart 15 = .ok (.iload_n 1, 1) := by decide +kernel
theorem dX7_tellsApart_16 : decode cX7_tellsApart 16 = .ok (.invokevirtual 63, 3) := by decide +kernel
theorem dX7_tellsApart_19 : decode cX7_tellsApart 19 = .ok (.aload_n 0, 1) := by decide +kernel
theorem dX7_tellsApart_20 : decode cX7_tellsApart 20 = .ok (.getfield 27, 3) := by decide +kernel
theorem dX7_tellsApart_23 : decode cX7_tellsApart 23 = .ok (.aload_n 0, 1) := by decide +kernel
theorem dX7_tellsApart_24 : decode cX7_tellsApart 24 = .ok (.getfield 18, 3) := by decide +kernel
theorem dX7_tellsApart_27 : decode cX7_tellsApart 27 = .ok (.invokevirtual 81, 3) := by decide +kernel
theorem dX7_tellsApart_30 : decode cX7_tellsApart 30 = .ok (.ifCond .ne 7, 3) := by decide +kernel
theorem dX7_tellsApart_33 : decode cX7_tellsApart 33 = .ok (.iconst 1, 1) := by decide +kernel
theorem dX7_tellsApart_34 : decode cX7_tellsApart 34 = .ok (.goto 4, 3) := by decide +kernel
theorem dX7_tellsApart_37 : decode cX7_tellsApart 37 = .ok (.iconst 0, 1) := by decide +kernel
theorem dX7_tellsApart_38 : decode cX7_tellsApart 38 = .ok (.ireturn, 1) := by decide +kernel
theorem dX7_findFewest_0 : decode cX7_findFewest 0 = .ok (.bipush (-9), 2) := by decide +kernel
theorem dX7_findFewest_2 : decode cX7_findFewest 2 = .ok (.istore_n 1, 1) := by decide +kernel
theorem dX7_findFewest_3 : decode cX7_findFewest 3 = .ok (.bipush 9, 2) := by decide +kernel
theorem dX7_findFewest_5 : decode cX7_findFewest 5 = .ok (.istore_n 2, 1) := by decide +kernel
theorem dX7_findFewest_6 : decode cX7_findFewest 6 = .ok (.iconst 0, 1) := by decide +kernel
theorem dX7_findFewest_7 : decode cX7_findFewest 7 = .ok (.istore_n 3, 1) := by decide +kernel
theorem dX7_findFewest_8 : decode cX7_findFewest 8 = .ok (.iload_n 3, 1) := by decide +kernel
theorem dX7_findFewest_9 : decode cX7_findFewest 9 = .ok (.sipush 255, 3) := by decide +kernel
theorem dX7_findFewest_12 : decode cX7_findFewest 12 = .ok (.if_icmp .gt 55, 3) := by decide +kernel
theorem dX7_findFewest_15 : decode cX7_findFewest 15 = .ok (.iload_n 3, 1) := by decide +kernel
theorem dX7_findFewest_16 : decode cX7_findFewest 16 = .ok (.aload_n 0, 1) := by decide +kernel
theorem dX7_findFewest_17 : decode cX7_findFewest 17 = .ok (.invokevirtual 60, 3) := by decide +kernel
theorem dX7_findFewest_20 : decode cX7_findFewest 20 = .ok (.iconst (-1), 1) := by decide +kernel
theorem dX7_findFewest_21 : decode cX7_findFewest 21 = .ok (.ixor, 1) := by decide +kernel
theorem dX7_findFewest_22 : decode cX7_findFewest 22 = .ok (.iand, 1) := by decide +kernel
theorem dX7_findFewest_23 : decode cX7_findFewest 23 = .ok (.ifCond .ne 7, 3) := by decide +kernel
theorem dX7_findFewest_26 : decode cX7_findFewest 26 = .ok (.iconst 1, 1) := by decide +kernel
theorem dX7_findFewest_27 : decode cX7_findFewest 27 = .ok (.goto 4, 3) := by decide +kernel
theorem dX7_findFewest_30 : decode cX7_findFewest 30 = .ok (.iconst 0, 1) := by decide +kernel
theorem dX7_findFewest_31 : decode cX7_findFewest 31 = .ok (.istore 4, 2) := by decide +kernel
theorem dX7_findFewest_33 : decode cX7_findFewest 33 = .ok (.iload 4, 2) := by decide +kernel
theorem dX7_findFewest_35 : decode cX7_findFewest 35 = .ok (.ifCond .eq 26, 3) := by decide +kernel
theorem dX7_findFewest_38 : decode cX7_findFewest 38 = .ok (.iload_n 3, 1) := by decide +kernel
theorem dX7_findFewest_39 : decode cX7_findFewest 39 = .ok (.invokestatic 88, 3) := by decide +kernel
theorem dX7_findFewest_42 : decode cX7_findFewest 42 = .ok (.iload_n 2, 1) := by decide +kernel
theorem dX7_findFewest_43 : decode cX7_findFewest 43 = .ok (.if_icmp .ge 18, 3) := by decide +kernel
theorem dX7_findFewest_46 : decode cX7_findFewest 46 = .ok (.aload_n 0, 1) := by decide +kernel
theorem dX7_findFewest_47 : decode cX7_findFewest 47 = .ok (.iload_n 3, 1) := by decide +kernel
theorem dX7_findFewest_48 : decode cX7_findFewest 48 = .ok (.invokevirtual 100, 3) := by decide +kernel
theorem dX7_findFewest_51 : decode cX7_findFewest 51 = .ok (.ifCond .eq 10, 3) := by decide +kernel
theorem dX7_findFewest_54 : decode cX7_findFewest 54 = .ok (.iload_n 3, 1) := by decide +kernel
theorem dX7_findFewest_55 : decode cX7_findFewest 55 = .ok (.istore_n 1, 1) := by decide +kernel
theorem dX7_findFewest_56 : decode cX7_findFewest 56 = .ok (.iload_n 3, 1) := by decide +kernel
theorem dX7_findFewest_57 : decode cX7_findFewest 57 = .ok (.invokestatic 88, 3) := by decide +kernel
theorem dX7_findFewest_60 : decode cX7_findFewest 60 = .ok (.istore_n 2, 1) := by decide +kernel
theorem dX7_findFewest_61 : decode cX7_findFewest 61 = .ok (.iinc 3 1, 3) := by decide +kernel
theorem dX7_findFewest_64 : decode cX7_findFewest 64 = .ok (.goto (-56), 3) := by decide +kernel
theorem dX7_findFewest_67 : decode cX7_findFewest 67 = .ok (.iload_n 1, 1) := by decide +kernel
theorem dX7_findFewest_68 : decode cX7_findFewest 68 = .ok (.ireturn, 1) := by decide +kernel
theorem dX7_fewestLetters_0 : decode cX7_fewestLetters 0 = .ok (.aload_n 0, 1) := by decide +kernel
theorem dX7_fewestLetters_1 : decode cX7_fewestLetters 1 = .ok (.getfield 70, 3) := by decide +kernel
theorem dX7_fewestLetters_4 : decode cX7_fewestLetters 4 = .ok (.ifCond .ne 16, 3) := by decide +kernel
theorem dX7_fewestLetters_7 : decode cX7_fewestLetters 7 = .ok (.aload_n 0, 1) := by decide +kernel
theorem dX7_fewestLetters_8 : decode cX7_fewestLetters 8 = .ok (.aload_n 0, 1) := by decide +kernel
theorem dX7_fewestLetters_9 : decode cX7_fewestLetters 9 = .ok (.invokevirtual 94, 3) := by decide +kernel
theorem dX7_fewestLetters_12 : decode cX7_fewestLetters 12 = .ok (.putfield 97, 3) := by decide +kernel
theorem dX7_fewestLetters_15 : decode cX7_fewestLetters 15 = .ok (.aload_n 0, 1) := by decide +kernel
theorem dX7_fewestLetters_16 : decode cX7_fewestLetters 16 = .ok (.iconst 1, 1) := by decide +kernel
theorem dX7_fewestLetters_17 : decode cX7_fewestLetters 17 = .ok (.putfield 70, 3) := by decide +kernel
theorem dX7_fewestLetters_20 : decode cX7_fewestLetters 20 = .ok (.aload_n 0, 1) := by decide +kernel
theorem dX7_fewestLetters_21 : decode cX7_fewestLetters 21 = .ok (.getfield 97, 3) := by decide +kernel
theorem dX7_fewestLetters_24 : decode cX7_fewestLetters 24 = .ok (.ireturn, 1) := by decide +kernel
theorem dX7_learn_0 : decode cX7_learn 0 = .ok (.aload_n 0, 1) := by decide +kernel
theorem dX7_learn_1 : decode cX7_learn 1 = .ok (.getfield 12, 3) := by decide +kernel
theorem dX7_learn_4 : decode cX7_learn 4 = .ok (.invokevirtual 30, 3) := by decide +kernel
theorem dX7_learn_7 : decode cX7_learn 7 = .ok (.aload_n 0, 1) := by decide +kernel
theorem dX7_learn_8 : decode cX7_learn 8 = .ok (.getfield 18, 3) := by decide +kernel
theorem dX7_learn_11 : decode cX7_learn 11 = .ok (.invokevirtual 30, 3) := by decide +kernel
theorem dX7_learn_14 : decode cX7_learn 14 = .ok (.aload_n 0, 1) := by decide +kernel
theorem dX7_learn_15 : decode cX7_learn 15 = .ok (.iconst 0, 1) := by decide +kernel
theorem dX7_learn_16 : decode cX7_learn 16 = .ok (.putfield 33, 3) := by decide +kernel
theorem dX7_learn_19 : decode cX7_learn 19 = .ok (.aload_n 0, 1) := by decide +kernel
theorem dX7_learn_20 : decode cX7_learn 20 = .ok (.iconst 0, 1) := by decide +kernel
theorem dX7_learn_21 : decode cX7_learn 21 = .ok (.putfield 37, 3) := by decide +kernel
theorem dX7_learn_24 : decode cX7_learn 24 = .ok (.iconst 0, 1) := by decide +kernel
theorem dX7_learn_25 : decode cX7_learn 25 = .ok (.istore_n 3, 1) := by decide +kernel
theorem dX7_learn_26 : decode cX7_learn 26 = .ok (.iload_n 3, 1) := by decide +kernel
theorem dX7_learn_27 : decode cX7_learn 27 = .ok (.iload_n 2, 1) := by decide +kernel
theorem dX7_learn_28 : decode cX7_learn 28 = .ok (.if_icmp .ge 93, 3) := by decide +kernel
theorem dX7_learn_31 : decode cX7_learn 31 = .ok (.iload_n 3, 1) := by decide +kernel
theorem dX7_learn_32 : decode cX7_learn 32 = .ok (.aload_n 1, 1) := by decide +kernel
theorem dX7_learn_33 : decode cX7_learn 33 = .ok (.arraylength, 1) := by decide +kernel
theorem dX7_learn_34 : decode cX7_learn 34 = .ok (.if_icmp .ge 87, 3) := by decide +kernel
theorem dX7_learn_37 : decode cX7_learn 37 = .ok (.aload_n 1, 1) := by decide +kernel
theorem dX7_learn_38 : decode cX7_learn 38 = .ok (.iload_n 3, 1) := by decide +kernel
theorem dX7_learn_39 : decode cX7_learn 39 = .ok (.aaload, 1) := by decide +kernel
theorem dX7_learn_40 : decode cX7_learn 40 = .ok (.aload_n 0, 1) := by decide +kernel
theorem dX7_learn_41 : decode cX7_learn 41 = .ok (.getfield 27, 3) := by decide +kernel
theorem dX7_learn_44 : decode cX7_learn 44 = .ok (.sipush 255, 3) := by decide +kernel
theorem dX7_learn_47 : decode cX7_learn 47 = .ok (.invokevirtual 40, 3) := by decide +kernel
theorem dX7_learn_50 : decode cX7_learn 50 = .ok (.aload_n 1, 1) := by decide +kernel
theorem dX7_learn_51 : decode cX7_learn 51 = .ok (.iload_n 3, 1) := by decide +kernel
theorem dX7_learn_52 : decode cX7_learn 52 = .ok (.aaload, 1) := by decide +kernel
theorem dX7_learn_53 : decode cX7_learn 53 = .ok (.getfield 46, 3) := by decide +kernel
theorem dX7_learn_56 : decode cX7_learn 56 = .ok (.iconst 1, 1) := by decide +kernel
theorem dX7_learn_57 : decode cX7_learn 57 = .ok (.if_icmp .ne 32, 3) := by decide +kernel
theorem dX7_learn_60 : decode cX7_learn 60 = .ok (.aload_n 0, 1) := by decide +kernel
theorem dX7_learn_61 : decode cX7_learn 61 = .ok (.getfield 12, 3) := by decide +kernel
theorem dX7_learn_64 : decode cX7_learn 64 = .ok (.aload_n 0, 1) := by decide +kernel
theorem dX7_learn_65 : decode cX7_learn 65 = .ok (.getfield 27, 3) := by decide +kernel
theorem dX7_learn_68 : decode cX7_learn 68 = .ok (.invokevirtual 49, 3) := by decide +kernel
theorem dX7_learn_71 : decode cX7_learn 71 = .ok (.aload_n 0, 1) := by decide +kernel
theorem dX7_learn_72 : decode cX7_learn 72 = .ok (.dup, 1) := by decide +kernel
theorem dX7_learn_73 : decode cX7_learn 73 = .ok (.getfield 33, 3) := by decide +kernel
theorem dX7_learn_76 : decode cX7_learn 76 = .ok (.aload_n 1, 1) := by decide +kernel
theorem dX7_learn_77 : decode cX7_learn 77 = .ok (.iload_n 3, 1) := by decide +kernel
theorem dX7_learn_78 : decode cX7_learn 78 = .ok (.aaload, 1) := by decide +kernel
theorem dX7_learn_79 : decode cX7_learn 79 = .ok (.invokevirtual 53, 3) := by decide +kernel
theorem dX7_learn_82 : decode cX7_learn 82 = .ok (.ior, 1) := by decide +kernel
theorem dX7_learn_83 : decode cX7_learn 83 = .ok (.putfield 33, 3) := by decide +kernel
theorem dX7_learn_86 : decode cX7_learn 86 = .ok (.goto 29, 3) := by decide +kernel
theorem dX7_learn_89 : decode cX7_learn 89 = .ok (.aload_n 0, 1) := by decide +kernel
theorem dX7_learn_90 : decode cX7_learn 90 = .ok (.getfield 18, 3) := by decide +kernel
theorem dX7_learn_93 : decode cX7_learn 93 = .ok (.aload_n 0, 1) := by decide +kernel
theorem dX7_learn_94 : decode cX7_learn 94 = .ok (.getfield 27, 3) := by decide +kernel
theorem dX7_learn_97 : decode cX7_learn 97 = .ok (.invokevirtual 49, 3) := by decide +kernel
theorem dX7_learn_100 : decode cX7_learn 100 = .ok (.aload_n 0, 1) := by decide +kernel
theorem dX7_learn_101 : decode cX7_learn 101 = .ok (.dup, 1) := by decide +kernel
theorem dX7_learn_102 : decode cX7_learn 102 = .ok (.getfield 37, 3) := by decide +kernel
theorem dX7_learn_105 : decode cX7_learn 105 = .ok (.aload_n 1, 1) := by decide +kernel
theorem dX7_learn_106 : decode cX7_learn 106 = .ok (.iload_n 3, 1) := by decide +kernel
theorem dX7_learn_107 : decode cX7_learn 107 = .ok (.aaload, 1) := by decide +kernel
theorem dX7_learn_108 : decode cX7_learn 108 = .ok (.invokevirtual 53, 3) := by decide +kernel
theorem dX7_learn_111 : decode cX7_learn 111 = .ok (.ior, 1) := by decide +kernel
theorem dX7_learn_112 : decode cX7_learn 112 = .ok (.putfield 37, 3) := by decide +kernel
theorem dX7_learn_115 : decode cX7_learn 115 = .ok (.iinc 3 1, 3) := by decide +kernel
theorem dX7_learn_118 : decode cX7_learn 118 = .ok (.goto (-92), 3) := by decide +kernel
theorem dX7_learn_121 : decode cX7_learn 121 = .ok (.aload_n 0, 1) := by decide +kernel
theorem dX7_learn_122 : decode cX7_learn 122 = .ok (.getfield 21, 3) := by decide +kernel
theorem dX7_learn_125 : decode cX7_learn 125 = .ok (.aload_n 0, 1) := by decide +kernel
theorem dX7_learn_126 : decode cX7_learn 126 = .ok (.getfield 12, 3) := by decide +kernel
theorem dX7_learn_129 : decode cX7_learn 129 = .ok (.invokevirtual 57, 3) := by decide +kernel
theorem dX7_learn_132 : decode cX7_learn 132 = .ok (.aload_n 0, 1) := by decide +kernel
theorem dX7_learn_133 : decode cX7_learn 133 = .ok (.getfield 21, 3) := by decide +kernel
theorem dX7_learn_136 : decode cX7_learn 136 = .ok (.aload_n 0, 1) := by decide +kernel
theorem dX7_learn_137 : decode cX7_learn 137 = .ok (.invokevirtual 60, 3) := by decide +kernel
theorem dX7_learn_140 : decode cX7_learn 140 = .ok (.invokevirtual 63, 3) := by decide +kernel
theorem dX7_learn_143 : decode cX7_learn 143 = .ok (.aload_n 0, 1) := by decide +kernel
theorem dX7_learn_144 : decode cX7_learn 144 = .ok (.getfield 24, 3) := by decide +kernel
theorem dX7_learn_147 : decode cX7_learn 147 = .ok (.aload_n 0, 1) := by decide +kernel
theorem dX7_learn_148 : decode cX7_learn 148 = .ok (.getfield 18, 3) := by decide +kernel
theorem dX7_learn_151 : decode cX7_learn 151 = .ok (.invokevirtual 57, 3) := by decide +kernel
theorem dX7_learn_154 : decode cX7_learn 154 = .ok (.aload_n 0, 1) := by decide +kernel
theorem dX7_learn_155 : decode cX7_learn 155 = .ok (.getfield 24, 3) := by decide +kernel
theorem dX7_learn_158 : decode cX7_learn 158 = .ok (.aload_n 0, 1) := by decide +kernel
theorem dX7_learn_159 : decode cX7_learn 159 = .ok (.invokevirtual 60, 3) := by decide +kernel
theorem dX7_learn_162 : decode cX7_learn 162 = .ok (.invokevirtual 63, 3) := by decide +kernel
theorem dX7_learn_165 : decode cX7_learn 165 = .ok (.aload_n 0, 1) := by decide +kernel
theorem dX7_learn_166 : decode cX7_learn 166 = .ok (.getfield 24, 3) := by decide +kernel
theorem dX7_learn_169 : decode cX7_learn 169 = .ok (.invokevirtual 67, 3) := by decide +kernel
theorem dX7_learn_172 : decode cX7_learn 172 = .ok (.aload_n 0, 1) := by decide +kernel
theorem dX7_learn_173 : decode cX7_learn 173 = .ok (.iconst 0, 1) := by decide +kernel
theorem dX7_learn_174 : decode cX7_learn 174 = .ok (.putfield 70, 3) := by decide +kernel
theorem dX7_learn_177 : decode cX7_learn 177 = .ok (.return_, 1) := by decide +kernel
set_option maxRecDepth 20000 in
theorem s_X7_sharedLetters {xs : Nat → Int32} {L d : Nat} {h : ev_H} (hS : SH h)   : EV xs L (d + 0) 0 0 M_X7_sharedLetters 434 h 0 [some (.ref 13)] [] (fun sz' h' r => ∃ x : Int32, r = [.int x]) := by
  refine r_aload_n rfl dX7_sharedLetters_0 rfl ?_
  obtain ⟨y52, y53, y54, y55, f51⟩ := hS.o13
  refine r_getv 5 rfl dX7_sharedLetters_1 (show 2 ≤ 13 ∧ 13 < 434 by decide) f51 fl_X7_33 rfl ?_
  refine r_aload_n rfl dX7_sharedLetters_4 rfl ?_
  refine r_getv 6 rfl dX7_sharedLetters_5 (show 2 ≤ 13 ∧ 13 < 434 by decide) f51 fl_X7_37 rfl ?_
  refine r_iand rfl dX7_sharedLetters_8 ?_
  exact r_ret dX7_sharedLetters_9 (rt_i rfl) ⟨_, rfl⟩
set_option maxRecDepth 20000 in
theorem s_X7_ownerOf {xs : Nat → Int32} {L d : Nat} {h : ev_H} (hS : SH h)  {l : Int32} : EV xs L (d + 0) 0 0 M_X7_ownerOf 434 h 0 [some (.ref 13), some (.int l), none, none] [] (fun sz' h' r => ∃ x : Int32, r = [.int x]) := by
  refine r_aload_n rfl dX7_ownerOf_0 rfl ?_
  obtain ⟨y52, y53, y54, y55, f51⟩ := hS.o13
  refine r_getv 5 rfl dX7_ownerOf_1 (show 2 ≤ 13 ∧ 13 < 434 by decide) f51 fl_X7_33 rfl ?_
  refine r_iload_n rfl dX7_ownerOf_4 rfl ?_
  refine r_ishr rfl dX7_ownerOf_5 ?_
  refine r_iconst (v := 1) rfl dX7_ownerOf_6 (by decide) ?_
  refine r_iand rfl dX7_ownerOf_7 ?_
  refine r_topi (fun x56 e57 => ?_)
  refine r_istore_n (ls' := [some (.ref 13), some (.int l), some (.int x56), none]) rfl dX7_ownerOf_8 (Nat.le_of_ble_eq_true rfl) rfl ?_
  refine r_aload_n rfl dX7_ownerOf_9 rfl ?_
  refine r_getv 6 rfl dX7_ownerOf_10 (show 2 ≤ 13 ∧ 13 < 434 by decide) f51 fl_X7_37 rfl ?_
  refine r_iload_n rfl dX7_ownerOf_13 rfl ?_
  refine r_ishr rfl dX7_ownerOf_14 ?_
  refine r_iconst (v := 1) rfl dX7_ownerOf_15 (by decide) ?_
  refine r_iand rfl dX7_ownerOf_16 ?_
  refine r_topi (fun x58 e59 => ?_)
  refine r_istore_n (ls' := [some (.ref 13), some (.int l), some (.int x56), some (.int x58)]) rfl dX7_ownerOf_17 (Nat.le_of_ble_eq_true rfl) rfl ?_
  refine r_iconst (v := 1) rfl dX7_ownerOf_18 (by decide) ?_
  refine r_iload_n rfl dX7_ownerOf_19 rfl ?_
  refine r_imul rfl dX7_ownerOf_20 ?_
  refine r_iconst (v := 2) rfl dX7_ownerOf_21 (by decide) ?_
  refine r_iload_n rfl dX7_ownerOf_22 rfl ?_
  refine r_imul rfl dX7_ownerOf_23 ?_
  refine r_iadd rfl dX7_ownerOf_24 ?_
  exact r_ret dX7_ownerOf_25 (rt_i rfl) ⟨_, rfl⟩
set_option maxRecDepth 20000 in
theorem s_X7_judge {xs : Nat → Int32} {L d : Nat} {h : ev_H} (hS : SH h) {a : Nat} (ha : wsAt a)  : EV xs L (d + 3) 0 0 M_X7_judge 434 h 0 [some (.ref 13), some (.ref a)] [] (fun sz' h' r => ∃ x : Int32, r = [.int x]) := by
  refine r_aload_n rfl dX7_judge_0 rfl ?_
  obtain ⟨g52, hw53⟩ := hS.ws ha
  refine cl_X7_74 rfl rfl dX7_judge_1 (show _ ∧ _ from ⟨ha.2.2.1, Nat.lt_of_succ_lt ha.2.2.2⟩).1 (show _ ∧ _ from ⟨ha.2.2.1, Nat.lt_of_succ_lt ha.2.2.2⟩).2 hw53.2.2.1 (Nat.le_of_ble_eq_true rfl) (s_X10_lettersLookedAt hw53) ?_
  rintro _ h54 _ ⟨rfl, e55, rfl⟩
  replace e55 := e55.symm
  subst e55
  refine r_aload_n rfl dX7_judge_4 rfl ?_
  obtain ⟨y57, y58, y59, y60, f56⟩ := hS.o13
  refine cl_X7_60 rfl rfl dX7_judge_5 (show 2 ≤ 13 ∧ 13 < 434 by decide).1 (show 2 ≤ 13 ∧ 13 < 434 by decide).2 f56 (Nat.le_of_ble_eq_true rfl) ((s_X7_sharedLetters hS ).sh hS) ?_
  rintro _ h61 _ ⟨⟨x63, rfl⟩, rfl, hS62, _⟩
  refine r_iconst (v := (-1)) rfl dX7_judge_8 (by decide) ?_
  refine r_ixor rfl dX7_judge_9 ?_
  refine r_iand rfl dX7_judge_10 ?_
  refine r_if_eq (tgt := 16) rfl rfl dX7_judge_11 (fun c64 => ?_) (fun c64 => ?_)
  · refine r_aload_n rfl dX7_judge_16 rfl ?_
    obtain ⟨y66, y67, y68, y69, f65⟩ := hS62.o13
    refine r_getv 0 rfl dX7_judge_17 (show 2 ≤ 13 ∧ 13 < 434 by decide) f65 fl_X7_12 rfl ?_
    refine r_aload_n rfl dX7_judge_20 rfl ?_
    obtain ⟨g71, hw72⟩ := hS62.ws wsAt_14
    obtain ⟨g74, hw75⟩ := hS62.ws ha
    refine cl_X7_77 rfl rfl dX7_judge_21 (show 2 ≤ 14 ∧ 14 < 434 by decide).1 (show 2 ≤ 14 ∧ 14 < 434 by decide).2 hw72.2.2.1 (Nat.le_of_ble_eq_true rfl) (s_X10_isWithin hw72 hw75) ?_
    rintro _ h76 _ ⟨rfl, e77, rfl⟩
    replace e77 := e77.symm
    subst e77
    refine r_if_ne (tgt := 29) rfl rfl dX7_judge_24 (fun c78 => ?_) (fun c78 => ?_)
    · refine r_aload_n rfl dX7_judge_29 rfl ?_
      refine r_getv 1 rfl dX7_judge_30 (show 2 ≤ 13 ∧ 13 < 434 by decide) f65 fl_X7_18 rfl ?_
      refine r_aload_n rfl dX7_judge_33 rfl ?_
      obtain ⟨g80, hw81⟩ := hS62.ws wsAt_16
      refine cl_X7_81 rfl rfl dX7_judge_34 (show 2 ≤ 16 ∧ 16 < 434 by decide).1 (show 2 ≤ 16 ∧ 16 < 434 by decide).2 hw81.2.2.1 (Nat.le_of_ble_eq_true rfl) (s_X10_sizeWith hw81 hw75) ?_
      rintro _ h82 _ ⟨rfl, e83, rfl⟩
      replace e83 := e83.symm
      subst e83
      refine r_if_eq (tgt := 44) rfl rfl dX7_judge_37 (fun c84 => ?_) (fun c84 => ?_)
      · refine r_iconst (v := 0) rfl dX7_judge_44 (by decide) ?_
        exact r_ret dX7_judge_45 (rt_i rfl) ⟨_, rfl⟩
      · refine r_iconst (v := 3) rfl dX7_judge_40 (by decide) ?_
        refine r_goto (pc' := 45) rfl dX7_judge_41 ?_
        exact r_ret dX7_judge_45 (rt_i rfl) ⟨_, rfl⟩
    · refine r_iconst (v := 2) rfl dX7_judge_27 (by decide) ?_
      exact r_ret dX7_judge_28 (rt_i rfl) ⟨_, rfl⟩
  · refine r_iconst (v := 1) rfl dX7_judge_14 (by decide) ?_
    exact r_ret dX7_judge_15 (rt_i rfl) ⟨_, rfl⟩
set_option maxRecDepth 20000 in
theorem s_X7_freeChoices {xs : Nat → Int32} {L d : Nat} {h : ev_H} (hS : SH h)   : EV xs L (d + 2) 0 0 M_X7_freeChoices 434 h 0 [some (.ref 13), none] [] (fun sz' h' r => ∃ x : Int32, r = [.int x]) := by
  refine r_aload_n rfl dX7_freeChoices_0 rfl ?_
  obtain ⟨y52, y53, y54, y55, f51⟩ := hS.o13
  refine r_getv 3 rfl dX7_freeChoices_1 (show 2 ≤ 13 ∧ 13 < 434 by decide) f51 fl_X7_24 rfl ?_
  obtain ⟨g57, hw58⟩ := hS.ws wsAt_20
  refine cl_X7_85 rfl rfl dX7_freeChoices_4 (show 2 ≤ 20 ∧ 20 < 434 by decide).1 (show 2 ≤ 20 ∧ 20 < 434 by decide).2 hw58.2.2.1 (Nat.le_of_ble_eq_true rfl) (s_X10_size hw58) ?_
  rintro _ h59 _ ⟨rfl, e60, rfl⟩
  replace e60 := e60.symm
  subst e60
  refine r_aload_n rfl dX7_freeChoices_7 rfl ?_
  refine r_getv 3 rfl dX7_freeChoices_8 (show 2 ≤ 13 ∧ 13 < 434 by decide) f51 fl_X7_24 rfl ?_
  refine r_aload_n rfl dX7_freeChoices_11 rfl ?_
  refine r_getv 2 rfl dX7_freeChoices_12 (show 2 ≤ 13 ∧ 13 < 434 by decide) f51 fl_X7_21 rfl ?_
  obtain ⟨g62, hw63⟩ := hS.ws wsAt_18
  refine cl_X7_81 rfl rfl dX7_freeChoices_15 (show 2 ≤ 20 ∧ 20 < 434 by decide).1 (show 2 ≤ 20 ∧ 20 < 434 by decide).2 hw58.2.2.1 (Nat.le_of_ble_eq_true rfl) (s_X10_sizeWith hw58 hw63) ?_
  rintro _ h64 _ ⟨rfl, e65, rfl⟩
  replace e65 := e65.symm
  subst e65
  refine r_isub rfl dX7_freeChoices_18 ?_
  refine r_topi (fun x66 e67 => ?_)
  refine r_istore_n (ls' := [some (.ref 13), some (.int x66)]) rfl dX7_freeChoices_19 (Nat.le_of_ble_eq_true rfl) rfl ?_
  refine r_iload_n rfl dX7_freeChoices_20 rfl ?_
  refine r_bipush (v := 8) rfl dX7_freeChoices_21 (by decide) ?_
  refine r_aload_n rfl dX7_freeChoices_23 rfl ?_
  refine cl_X7_60 rfl rfl dX7_freeChoices_24 (show 2 ≤ 13 ∧ 13 < 434 by decide).1 (show 2 ≤ 13 ∧ 13 < 434 by decide).2 f51 (Nat.le_of_ble_eq_true rfl) ((s_X7_sharedLetters hS ).sh hS) ?_
  rintro _ h68 _ ⟨⟨x70, rfl⟩, rfl, hS69, _⟩
  refine cl_X7_88 rfl rfl dX7_freeChoices_27 (Nat.le_of_ble_eq_true rfl) s_J6_bitCount_0f7a4 ?_
  rintro _ h71 _ ⟨rfl, e72, rfl⟩
  replace e72 := e72.symm
  subst e72
  refine r_isub rfl dX7_freeChoices_30 ?_
  refine r_ishr rfl dX7_freeChoices_31 ?_
  exact r_ret dX7_freeChoices_32 (rt_i rfl) ⟨_, rfl⟩
set_option maxRecDepth 20000 in
theorem s_X7_tellsApart {xs : Nat → Int32} {L d : Nat} {h : ev_H} (hS : SH h)  {m : Int32} : EV xs L (d + 3) 0 0 M_X7_tellsApart 434 h 0 [some (.ref 13), some (.int m)] [] (fun sz' h' r => ∃ x : Int32, r = [.int x]) := by
  refine r_aload_n rfl dX7_tellsApart_0 rfl ?_
  obtain ⟨y52, y53, y54, y55, f51⟩ := hS.o13
  refine r_getv 4 rfl dX7_tellsApart_1 (show 2 ≤ 13 ∧ 13 < 434 by decide) f51 fl_X7_27 rfl ?_
  refine r_aload_n rfl dX7_tellsApart_4 rfl ?_
  refine r_getv 0 rfl dX7_tellsApart_5 (show 2 ≤ 13 ∧ 13 < 434 by decide) f51 fl_X7_12 rfl ?_
  obtain ⟨g57, hw58⟩ := hS.ws wsAt_22
  obtain ⟨g60, hw61⟩ := hS.ws wsAt_14
  refine cl_X7_57 rfl rfl dX7_tellsApart_8 (show 2 ≤ 22 ∧ 22 < 434 by decide).1 (show 2 ≤ 22 ∧ 22 < 434 by decide).2 hw58.2.2.1 (Nat.le_of_ble_eq_true rfl) ((s_X10_become hw58 hw61 (by omega)).sh hS) ?_
  rintro _ h62 _ ⟨⟨rfl, -, rfl⟩, -, hS63, -⟩
  refine r_aload_n rfl dX7_tellsApart_11 rfl ?_
  obtain ⟨y66, y67, y68, y69, f65⟩ := hS63.o13
  refine r_getv 4 rfl dX7_tellsApart_12 (show 2 ≤ 13 ∧ 13 < 434 by decide) f65 fl_X7_27 rfl ?_
  refine r_iload_n rfl dX7_tellsApart_15 rfl ?_
  obtain ⟨g71, hw72⟩ := hS63.ws wsAt_22
  refine cl_X7_63 rfl rfl dX7_tellsApart_16 (show 2 ≤ 22 ∧ 22 < 434 by decide).1 (show 2 ≤ 22 ∧ 22 < 434 by decide).2 hw72.2.2.1 (Nat.le_of_ble_eq_true rfl) ((s_X10_spreadBut hw72).sh hS63) ?_
  rintro _ h73 _ ⟨⟨rfl, -, rfl⟩, -, hS74, -⟩
  refine r_aload_n rfl dX7_tellsApart_19 rfl ?_
  obtain ⟨y77, y78, y79, y80, f76⟩ := hS74.o13
  refine r_getv 4 rfl dX7_tellsApart_20 (show 2 ≤ 13 ∧ 13 < 434 by decide) f76 fl_X7_27 rfl ?_
  refine r_aload_n rfl dX7_tellsApart_23 rfl ?_
  refine r_getv 1 rfl dX7_tellsApart_24 (show 2 ≤ 13 ∧ 13 < 434 by decide) f76 fl_X7_18 rfl ?_
  obtain ⟨g82, hw83⟩ := hS74.ws wsAt_22
  obtain ⟨g85, hw86⟩ := hS74.ws wsAt_16
  refine cl_X7_81 rfl rfl dX7_tellsApart_27 (show 2 ≤ 22 ∧ 22 < 434 by decide).1 (show 2 ≤ 22 ∧ 22 < 434 by decide).2 hw83.2.2.1 (Nat.le_of_ble_eq_true rfl) (s_X10_sizeWith hw83 hw86) ?_
  rintro _ h87 _ ⟨rfl, e88, rfl⟩
  replace e88 := e88.symm
  subst e88
  refine r_if_ne (tgt := 37) rfl rfl dX7_tellsApart_30 (fun c89 => ?_) (fun c89 => ?_)
  · refine r_iconst (v := 0) rfl dX7_tellsApart_37 (by decide) ?_
    exact r_ret dX7_tellsApart_38 (rt_z rfl (Or.inl rfl)) ⟨_, rfl⟩
  · refine r_iconst (v := 1) rfl dX7_tellsApart_33 (by decide) ?_
    refine r_goto (pc' := 38) rfl dX7_tellsApart_34 ?_
    exact r_ret dX7_tellsApart_38 (rt_z rfl (Or.inr rfl)) ⟨_, rfl⟩
set_option maxRecDepth 20000 in
theorem s_X7_findFewest_loop {xs : Nat → Int32} {L d : Nat}  : ∀ (n k : Nat), k + n = 256 → ∀ (h : ev_H) (hS : SH h) (b : Int32) (z : Int32) (u : Option Value) , EV xs L (d + 4) 0 0 M_X7_findFewest 434 h 8 [some (.ref 13), some (.int b), some (.int z), some (.int (nI k)), u] [] (fun sz' h' r => ∃ x : Int32, r = [.int x]) := by
  intro n
  induction n with
  | zero =>
    intro k hk h hS b z u
    obtain rfl : k = 256 := by omega
    refine r_iload_n rfl dX7_findFewest_8 rfl ?_
    refine r_sipush (v := 255) rfl dX7_findFewest_9 (by decide) ?_
    refine r_icmp_gt (tgt := 67) rfl rfl dX7_findFewest_12 (fun _ => ?_) (fun c => absurd c (by decide))
    refine r_iload_n rfl dX7_findFewest_67 rfl ?_
    exact r_ret dX7_findFewest_68 (rt_i rfl) ⟨_, rfl⟩
  | succ n ih =>
    intro k hk h hS b z u
    refine r_iload_n rfl dX7_findFewest_8 rfl ?_
    refine r_sipush (v := 255) rfl dX7_findFewest_9 (by decide) ?_
    refine r_icmp_gt (tgt := 67) rfl rfl dX7_findFewest_12 (fun c => absurd c (show ¬ (255 : Int32) < nI k from nI_nlt (a := 255) (b := k) (by omega) (by decide))) (fun _ => ?_)
    refine r_iload_n rfl dX7_findFewest_15 rfl ?_
    refine r_aload_n rfl dX7_findFewest_16 rfl ?_
    obtain ⟨y602, y603, y604, y605, f601⟩ := hS.o13
    refine cl_X7_60 rfl rfl dX7_findFewest_17 (show 2 ≤ 13 ∧ 13 < 434 by decide).1 (show 2 ≤ 13 ∧ 13 < 434 by decide).2 f601 (Nat.le_of_ble_eq_true rfl) ((s_X7_sharedLetters hS ).sh hS) ?_
    rintro _ h606 _ ⟨⟨x608, rfl⟩, rfl, hS607, _⟩
    refine r_iconst (v := (-1)) rfl dX7_findFewest_20 (by decide) ?_
    refine r_ixor rfl dX7_findFewest_21 ?_
    refine r_iand rfl dX7_findFewest_22 ?_
    refine r_if_ne (tgt := 30) rfl rfl dX7_findFewest_23 (fun c609 => ?_) (fun c609 => ?_)
    · refine r_iconst (v := 0) rfl dX7_findFewest_30 (by decide) ?_
      refine r_istore (ls' := [some (.ref 13), some (.int b), some (.int z), some (.int (nI k)), some (.int 0)]) rfl dX7_findFewest_31 (Nat.le_of_ble_eq_true rfl) rfl ?_
      refine r_iload rfl dX7_findFewest_33 rfl ?_
      refine r_if_eq (tgt := 61) rfl rfl dX7_findFewest_35 (fun _ => ?_) (fun c => absurd c (by decide))
      obtain ⟨x610, e611⟩ : ∃ z : Int32, z = (nI k) + Int32.ofInt 1 := ⟨_, rfl⟩
      refine r_iinc (y := x610) (ls' := [some (.ref 13), some (.int b), some (.int z), some (.int x610), some (.int 0)]) rfl dX7_findFewest_61 rfl e611.symm (Nat.le_of_ble_eq_true rfl) rfl ?_
      refine r_goto (pc' := 8) rfl dX7_findFewest_64 ?_
      have z612 : x610 = nI (k + 1) := by rw [e611]; exact nI_1 k
      subst z612
      exact ih (k + 1) (by omega) h606 hS607 b z (some (.int 0))
    · refine r_iconst (v := 1) rfl dX7_findFewest_26 (by decide) ?_
      refine r_goto (pc' := 31) rfl dX7_findFewest_27 ?_
      refine r_istore (ls' := [some (.ref 13), some (.int b), some (.int z), some (.int (nI k)), some (.int 1)]) rfl dX7_findFewest_31 (Nat.le_of_ble_eq_true rfl) rfl ?_
      refine r_iload rfl dX7_findFewest_33 rfl ?_
      refine r_if_eq (tgt := 61) rfl rfl dX7_findFewest_35 (fun c => absurd c (by decide)) (fun _ => ?_)
      refine r_iload_n rfl dX7_findFewest_38 rfl ?_
      refine cl_X7_88 rfl rfl dX7_findFewest_39 (Nat.le_of_ble_eq_true rfl) s_J6_bitCount_0f7a4 ?_
      rintro _ h613 _ ⟨rfl, e614, rfl⟩
      replace e614 := e614.symm
      subst e614
      refine r_iload_n rfl dX7_findFewest_42 rfl ?_
      refine r_icmp_ge (tgt := 61) rfl rfl dX7_findFewest_43 (fun c615 => ?_) (fun c615 => ?_)
      · obtain ⟨x616, e617⟩ : ∃ z : Int32, z = (nI k) + Int32.ofInt 1 := ⟨_, rfl⟩
        refine r_iinc (y := x616) (ls' := [some (.ref 13), some (.int b), some (.int z), some (.int x616), some (.int 1)]) rfl dX7_findFewest_61 rfl e617.symm (Nat.le_of_ble_eq_true rfl) rfl ?_
        refine r_goto (pc' := 8) rfl dX7_findFewest_64 ?_
        have z618 : x616 = nI (k + 1) := by rw [e617]; exact nI_1 k
        subst z618
        exact ih (k + 1) (by omega) h606 hS607 b z (some (.int 1))
      · refine r_aload_n rfl dX7_findFewest_46 rfl ?_
        refine r_iload_n rfl dX7_findFewest_47 rfl ?_
        obtain ⟨y620, y621, y622, y623, f619⟩ := hS607.o13
        refine cl_X7_100 rfl rfl dX7_findFewest_48 (show 2 ≤ 13 ∧ 13 < 434 by decide).1 (show 2 ≤ 13 ∧ 13 < 434 by decide).2 f619 (Nat.le_of_ble_eq_true rfl) ((s_X7_tellsApart hS607 ).sh hS607) ?_
        rintro _ h624 _ ⟨⟨x626, rfl⟩, rfl, hS625, _⟩
        refine r_if_eq (tgt := 61) rfl rfl dX7_findFewest_51 (fun c627 => ?_) (fun c627 => ?_)
        · obtain ⟨x628, e629⟩ : ∃ z : Int32, z = (nI k) + Int32.ofInt 1 := ⟨_, rfl⟩
          refine r_iinc (y := x628) (ls' := [some (.ref 13), some (.int b), some (.int z), some (.int x628), some (.int 1)]) rfl dX7_findFewest_61 rfl e629.symm (Nat.le_of_ble_eq_true rfl) rfl ?_
          refine r_goto (pc' := 8) rfl dX7_findFewest_64 ?_
          have z630 : x628 = nI (k + 1) := by rw [e629]; exact nI_1 k
          subst z630
          exact ih (k + 1) (by omega) h624 hS625 b z (some (.int 1))
        · refine r_iload_n rfl dX7_findFewest_54 rfl ?_
          refine r_istore_n (ls' := [some (.ref 13), some (.int (nI k)), some (.int z), some (.int (nI k)), some (.int 1)]) rfl dX7_findFewest_55 (Nat.le_of_ble_eq_true rfl) rfl ?_
          refine r_iload_n rfl dX7_findFewest_56 rfl ?_
          refine cl_X7_88 rfl rfl dX7_findFewest_57 (Nat.le_of_ble_eq_true rfl) s_J6_bitCount_0f7a4 ?_
          rintro _ h631 _ ⟨rfl, e632, rfl⟩
          replace e632 := e632.symm
          subst e632
          refine r_topi (fun x633 e634 => ?_)
          refine r_istore_n (ls' := [some (.ref 13), some (.int (nI k)), some (.int x633), some (.int (nI k)), some (.int 1)]) rfl dX7_findFewest_60 (Nat.le_of_ble_eq_true rfl) rfl ?_
          obtain ⟨x635, e636⟩ : ∃ z : Int32, z = (nI k) + Int32.ofInt 1 := ⟨_, rfl⟩
          refine r_iinc (y := x635) (ls' := [some (.ref 13), some (.int (nI k)), some (.int x633), some (.int x635), some (.int 1)]) rfl dX7_findFewest_61 rfl e636.symm (Nat.le_of_ble_eq_true rfl) rfl ?_
          refine r_goto (pc' := 8) rfl dX7_findFewest_64 ?_
          have z637 : x635 = nI (k + 1) := by rw [e636]; exact nI_1 k
          subst z637
          exact ih (k + 1) (by omega) h624 hS625 (nI k) x633 (some (.int 1))
set_option maxRecDepth 20000 in
theorem s_X7_findFewest {xs : Nat → Int32} {L d : Nat} {h : ev_H} (hS : SH h)   : EV xs L (d + 4) 0 0 M_X7_findFewest 434 h 0 [some (.ref 13), none, none, none, none] [] (fun sz' h' r => ∃ x : Int32, r = [.int x]) := by
  refine r_bipush (v := (-9)) rfl dX7_findFewest_0 (by decide) ?_
  refine r_istore_n (ls' := [some (.ref 13), some (.int (-9)), none, none, none]) rfl dX7_findFewest_2 (Nat.le_of_ble_eq_true rfl) rfl ?_
  refine r_bipush (v := 9) rfl dX7_findFewest_3 (by decide) ?_
  refine r_istore_n (ls' := [some (.ref 13), some (.int (-9)), some (.int 9), none, none]) rfl dX7_findFewest_5 (Nat.le_of_ble_eq_true rfl) rfl ?_
  refine r_iconst (v := 0) rfl dX7_findFewest_6 (by decide) ?_
  refine r_istore_n (ls' := [some (.ref 13), some (.int (-9)), some (.int 9), some (.int 0), none]) rfl dX7_findFewest_7 (Nat.le_of_ble_eq_true rfl) rfl ?_
  exact s_X7_findFewest_loop 256 0 rfl h hS (-9) 9 none
set_option maxRecDepth 20000 in
theorem s_X7_fewestLetters {xs : Nat → Int32} {L d : Nat} {h : ev_H} (hS : SH h)   : EV xs L (d + 5) 0 0 M_X7_fewestLetters 434 h 0 [some (.ref 13)] [] (fun sz' h' r => ∃ x : Int32, r = [.int x]) := by
  refine r_aload_n rfl dX7_fewestLetters_0 rfl ?_
  obtain ⟨y52, y53, y54, y55, f51⟩ := hS.o13
  refine r_getv 7 rfl dX7_fewestLetters_1 (show 2 ≤ 13 ∧ 13 < 434 by decide) f51 fl_X7_70 rfl ?_
  refine r_if_ne (tgt := 20) rfl rfl dX7_fewestLetters_4 (fun c56 => ?_) (fun c56 => ?_)
  · refine r_aload_n rfl dX7_fewestLetters_20 rfl ?_
    refine r_getv 8 rfl dX7_fewestLetters_21 (show 2 ≤ 13 ∧ 13 < 434 by decide) f51 fl_X7_97 rfl ?_
    exact r_ret dX7_fewestLetters_24 (rt_i rfl) ⟨_, rfl⟩
  · refine r_aload_n rfl dX7_fewestLetters_7 rfl ?_
    refine r_aload_n rfl dX7_fewestLetters_8 rfl ?_
    refine cl_X7_94 rfl rfl dX7_fewestLetters_9 (show 2 ≤ 13 ∧ 13 < 434 by decide).1 (show 2 ≤ 13 ∧ 13 < 434 by decide).2 f51 (Nat.le_of_ble_eq_true rfl) ((s_X7_findFewest hS ).sh hS) ?_
    rintro _ h57 _ ⟨⟨x59, rfl⟩, rfl, hS58, _⟩
    obtain ⟨y61, y62, y63, y64, f60⟩ := hS58.o13
    refine k_put 8 rfl dX7_fewestLetters_12 (show 2 ≤ 13 ∧ 13 < 434 by decide) hS58 f60 (fp_X7_97 rfl _) (Nat.le_of_ble_eq_true rfl) (fun h65 hS66 => ?_)
    refine r_aload_n rfl dX7_fewestLetters_15 rfl ?_
    refine r_iconst (v := 1) rfl dX7_fewestLetters_16 (by decide) ?_
    obtain ⟨y68, y69, y70, y71, f67⟩ := hS66.o13
    refine k_put 7 rfl dX7_fewestLetters_17 (show 2 ≤ 13 ∧ 13 < 434 by decide) hS66 f67 (fp_X7_70 rfl _ (Or.inr rfl)) (Nat.le_of_ble_eq_true rfl) (fun h72 hS73 => ?_)
    refine r_aload_n rfl dX7_fewestLetters_20 rfl ?_
    obtain ⟨y75, y76, y77, y78, f74⟩ := hS73.o13
    refine r_getv 8 rfl dX7_fewestLetters_21 (show 2 ≤ 13 ∧ 13 < 434 by decide) f74 fl_X7_97 rfl ?_
    exact r_ret dX7_fewestLetters_24 (rt_i rfl) ⟨_, rfl⟩
set_option maxRecDepth 20000 in
theorem s_X7_learn_loop {xs : Nat → Int32} {L d : Nat} {c : Int32} : ∀ (n k : Nat), k + n = 40 → ∀ (h : ev_H) (hS : SH h)  , EV xs L (d + 4) 0 0 M_X7_learn 434 h 26 [some (.ref 13), some (.ref 12), some (.int c), some (.int (nI k))] [] (fun sz' h' r => r = []) := by
  intro n
  induction n with
  | zero =>
    intro k hk h hS 
    obtain rfl : k = 40 := by omega
    refine r_iload_n rfl dX7_learn_26 rfl ?_
    refine r_iload_n rfl dX7_learn_27 rfl ?_
    refine r_icmp_ge (tgt := 121) rfl rfl dX7_learn_28 (fun c501 => ?_) (fun c501 => ?_)
    · refine r_aload_n rfl dX7_learn_121 rfl ?_
      obtain ⟨y503, y504, y505, y506, f502⟩ := hS.o13
      refine r_getv 2 rfl dX7_learn_122 (show 2 ≤ 13 ∧ 13 < 434 by decide) f502 fl_X7_21 rfl ?_
      refine r_aload_n rfl dX7_learn_125 rfl ?_
      refine r_getv 0 rfl dX7_learn_126 (show 2 ≤ 13 ∧ 13 < 434 by decide) f502 fl_X7_12 rfl ?_
      obtain ⟨g508, hw509⟩ := hS.ws wsAt_18
      obtain ⟨g511, hw512⟩ := hS.ws wsAt_14
      refine cl_X7_57 rfl rfl dX7_learn_129 (show 2 ≤ 18 ∧ 18 < 434 by decide).1 (show 2 ≤ 18 ∧ 18 < 434 by decide).2 hw509.2.2.1 (Nat.le_of_ble_eq_true rfl) ((s_X10_become hw509 hw512 (by omega)).sh hS) ?_
      rintro _ h513 _ ⟨⟨rfl, -, rfl⟩, -, hS514, -⟩
      refine r_aload_n rfl dX7_learn_132 rfl ?_
      obtain ⟨y517, y518, y519, y520, f516⟩ := hS514.o13
      refine r_getv 2 rfl dX7_learn_133 (show 2 ≤ 13 ∧ 13 < 434 by decide) f516 fl_X7_21 rfl ?_
      refine r_aload_n rfl dX7_learn_136 rfl ?_
      refine cl_X7_60 rfl rfl dX7_learn_137 (show 2 ≤ 13 ∧ 13 < 434 by decide).1 (show 2 ≤ 13 ∧ 13 < 434 by decide).2 f516 (Nat.le_of_ble_eq_true rfl) ((s_X7_sharedLetters hS514 ).sh hS514) ?_
      rintro _ h521 _ ⟨⟨x523, rfl⟩, rfl, hS522, _⟩
      obtain ⟨g525, hw526⟩ := hS522.ws wsAt_18
      refine cl_X7_63 rfl rfl dX7_learn_140 (show 2 ≤ 18 ∧ 18 < 434 by decide).1 (show 2 ≤ 18 ∧ 18 < 434 by decide).2 hw526.2.2.1 (Nat.le_of_ble_eq_true rfl) ((s_X10_spreadBut hw526).sh hS522) ?_
      rintro _ h527 _ ⟨⟨rfl, -, rfl⟩, -, hS528, -⟩
      refine r_aload_n rfl dX7_learn_143 rfl ?_
      obtain ⟨y531, y532, y533, y534, f530⟩ := hS528.o13
      refine r_getv 3 rfl dX7_learn_144 (show 2 ≤ 13 ∧ 13 < 434 by decide) f530 fl_X7_24 rfl ?_
      refine r_aload_n rfl dX7_learn_147 rfl ?_
      refine r_getv 1 rfl dX7_learn_148 (show 2 ≤ 13 ∧ 13 < 434 by decide) f530 fl_X7_18 rfl ?_
      obtain ⟨g536, hw537⟩ := hS528.ws wsAt_20
      obtain ⟨g539, hw540⟩ := hS528.ws wsAt_16
      refine cl_X7_57 rfl rfl dX7_learn_151 (show 2 ≤ 20 ∧ 20 < 434 by decide).1 (show 2 ≤ 20 ∧ 20 < 434 by decide).2 hw537.2.2.1 (Nat.le_of_ble_eq_true rfl) ((s_X10_become hw537 hw540 (by omega)).sh hS528) ?_
      rintro _ h541 _ ⟨⟨rfl, -, rfl⟩, -, hS542, -⟩
      refine r_aload_n rfl dX7_learn_154 rfl ?_
      obtain ⟨y545, y546, y547, y548, f544⟩ := hS542.o13
      refine r_getv 3 rfl dX7_learn_155 (show 2 ≤ 13 ∧ 13 < 434 by decide) f544 fl_X7_24 rfl ?_
      refine r_aload_n rfl dX7_learn_158 rfl ?_
      refine cl_X7_60 rfl rfl dX7_learn_159 (show 2 ≤ 13 ∧ 13 < 434 by decide).1 (show 2 ≤ 13 ∧ 13 < 434 by decide).2 f544 (Nat.le_of_ble_eq_true rfl) ((s_X7_sharedLetters hS542 ).sh hS542) ?_
      rintro _ h549 _ ⟨⟨x551, rfl⟩, rfl, hS550, _⟩
      obtain ⟨g553, hw554⟩ := hS550.ws wsAt_20
      refine cl_X7_63 rfl rfl dX7_learn_162 (show 2 ≤ 20 ∧ 20 < 434 by decide).1 (show 2 ≤ 20 ∧ 20 < 434 by decide).2 hw554.2.2.1 (Nat.le_of_ble_eq_true rfl) ((s_X10_spreadBut hw554).sh hS550) ?_
      rintro _ h555 _ ⟨⟨rfl, -, rfl⟩, -, hS556, -⟩
      refine r_aload_n rfl dX7_learn_165 rfl ?_
      obtain ⟨y559, y560, y561, y562, f558⟩ := hS556.o13
      refine r_getv 3 rfl dX7_learn_166 (show 2 ≤ 13 ∧ 13 < 434 by decide) f558 fl_X7_24 rfl ?_
      obtain ⟨g564, hw565⟩ := hS556.ws wsAt_20
      refine cl_X7_67 rfl rfl dX7_learn_169 (show 2 ≤ 20 ∧ 20 < 434 by decide).1 (show 2 ≤ 20 ∧ 20 < 434 by decide).2 hw565.2.2.1 (Nat.le_of_ble_eq_true rfl) ((s_X10_turn hw565).sh hS556) ?_
      rintro _ h566 _ ⟨⟨rfl, -, rfl⟩, -, hS567, -⟩
      refine r_aload_n rfl dX7_learn_172 rfl ?_
      refine r_iconst (v := 0) rfl dX7_learn_173 (by decide) ?_
      obtain ⟨y570, y571, y572, y573, f569⟩ := hS567.o13
      refine k_put 7 rfl dX7_learn_174 (show 2 ≤ 13 ∧ 13 < 434 by decide) hS567 f569 (fp_X7_70 rfl _ (Or.inl rfl)) (Nat.le_of_ble_eq_true rfl) (fun h574 hS575 => ?_)
      exact r_ret dX7_learn_177 (rt_v rfl) rfl
    · refine r_iload_n rfl dX7_learn_31 rfl ?_
      refine r_aload_n rfl dX7_learn_32 rfl ?_
      refine r_alen (v := 40) rfl dX7_learn_33 (show 2 ≤ 12 ∧ 12 < 434 by decide).1 (show 2 ≤ 12 ∧ 12 < 434 by decide).2 hS.o12 (by decide) (by decide) ?_
      refine r_icmp_ge (tgt := 121) rfl rfl dX7_learn_34 (fun _ => ?_) (fun c => absurd c (by decide))
      refine r_aload_n rfl dX7_learn_121 rfl ?_
      obtain ⟨y578, y579, y580, y581, f577⟩ := hS.o13
      refine r_getv 2 rfl dX7_learn_122 (show 2 ≤ 13 ∧ 13 < 434 by decide) f577 fl_X7_21 rfl ?_
      refine r_aload_n rfl dX7_learn_125 rfl ?_
      refine r_getv 0 rfl dX7_learn_126 (show 2 ≤ 13 ∧ 13 < 434 by decide) f577 fl_X7_12 rfl ?_
      obtain ⟨g583, hw584⟩ := hS.ws wsAt_18
      obtain ⟨g586, hw587⟩ := hS.ws wsAt_14
      refine cl_X7_57 rfl rfl dX7_learn_129 (show 2 ≤ 18 ∧ 18 < 434 by decide).1 (show 2 ≤ 18 ∧ 18 < 434 by decide).2 hw584.2.2.1 (Nat.le_of_ble_eq_true rfl) ((s_X10_become hw584 hw587 (by omega)).sh hS) ?_
      rintro _ h588 _ ⟨⟨rfl, -, rfl⟩, -, hS589, -⟩
      refine r_aload_n rfl dX7_learn_132 rfl ?_
      obtain ⟨y592, y593, y594, y595, f591⟩ := hS589.o13
      refine r_getv 2 rfl dX7_learn_133 (show 2 ≤ 13 ∧ 13 < 434 by decide) f591 fl_X7_21 rfl ?_
      refine r_aload_n rfl dX7_learn_136 rfl ?_
      refine cl_X7_60 rfl rfl dX7_learn_137 (show 2 ≤ 13 ∧ 13 < 434 by decide).1 (show 2 ≤ 13 ∧ 13 < 434 by decide).2 f591 (Nat.le_of_ble_eq_true rfl) ((s_X7_sharedLetters hS589 ).sh hS589) ?_
      rintro _ h596 _ ⟨⟨x598, rfl⟩, rfl, hS597, _⟩
      obtain ⟨g600, hw601⟩ := hS597.ws wsAt_18
      refine cl_X7_63 rfl rfl dX7_learn_140 (show 2 ≤ 18 ∧ 18 < 434 by decide).1 (show 2 ≤ 18 ∧ 18 < 434 by decide).2 hw601.2.2.1 (Nat.le_of_ble_eq_true rfl) ((s_X10_spreadBut hw601).sh hS597) ?_
      rintro _ h602 _ ⟨⟨rfl, -, rfl⟩, -, hS603, -⟩
      refine r_aload_n rfl dX7_learn_143 rfl ?_
      obtain ⟨y606, y607, y608, y609, f605⟩ := hS603.o13
      refine r_getv 3 rfl dX7_learn_144 (show 2 ≤ 13 ∧ 13 < 434 by decide) f605 fl_X7_24 rfl ?_
      refine r_aload_n rfl dX7_learn_147 rfl ?_
      refine r_getv 1 rfl dX7_learn_148 (show 2 ≤ 13 ∧ 13 < 434 by decide) f605 fl_X7_18 rfl ?_
      obtain ⟨g611, hw612⟩ := hS603.ws wsAt_20
      obtain ⟨g614, hw615⟩ := hS603.ws wsAt_16
      refine cl_X7_57 rfl rfl dX7_learn_151 (show 2 ≤ 20 ∧ 20 < 434 by decide).1 (show 2 ≤ 20 ∧ 20 < 434 by decide).2 hw612.2.2.1 (Nat.le_of_ble_eq_true rfl) ((s_X10_become hw612 hw615 (by omega)).sh hS603) ?_
      rintro _ h616 _ ⟨⟨rfl, -, rfl⟩, -, hS617, -⟩
      refine r_aload_n rfl dX7_learn_154 rfl ?_
      obtain ⟨y620, y621, y622, y623, f619⟩ := hS617.o13
      refine r_getv 3 rfl dX7_learn_155 (show 2 ≤ 13 ∧ 13 < 434 by decide) f619 fl_X7_24 rfl ?_
      refine r_aload_n rfl dX7_learn_158 rfl ?_
      refine cl_X7_60 rfl rfl dX7_learn_159 (show 2 ≤ 13 ∧ 13 < 434 by decide).1 (show 2 ≤ 13 ∧ 13 < 434 by decide).2 f619 (Nat.le_of_ble_eq_true rfl) ((s_X7_sharedLetters hS617 ).sh hS617) ?_
      rintro _ h624 _ ⟨⟨x626, rfl⟩, rfl, hS625, _⟩
      obtain ⟨g628, hw629⟩ := hS625.ws wsAt_20
      refine cl_X7_63 rfl rfl dX7_learn_162 (show 2 ≤ 20 ∧ 20 < 434 by decide).1 (show 2 ≤ 20 ∧ 20 < 434 by decide).2 hw629.2.2.1 (Nat.le_of_ble_eq_true rfl) ((s_X10_spreadBut hw629).sh hS625) ?_
      rintro _ h630 _ ⟨⟨rfl, -, rfl⟩, -, hS631, -⟩
      refine r_aload_n rfl dX7_learn_165 rfl ?_
      obtain ⟨y634, y635, y636, y637, f633⟩ := hS631.o13
      refine r_getv 3 rfl dX7_learn_166 (show 2 ≤ 13 ∧ 13 < 434 by decide) f633 fl_X7_24 rfl ?_
      obtain ⟨g639, hw640⟩ := hS631.ws wsAt_20
      refine cl_X7_67 rfl rfl dX7_learn_169 (show 2 ≤ 20 ∧ 20 < 434 by decide).1 (show 2 ≤ 20 ∧ 20 < 434 by decide).2 hw640.2.2.1 (Nat.le_of_ble_eq_true rfl) ((s_X10_turn hw640).sh hS631) ?_
      rintro _ h641 _ ⟨⟨rfl, -, rfl⟩, -, hS642, -⟩
      refine r_aload_n rfl dX7_learn_172 rfl ?_
      refine r_iconst (v := 0) rfl dX7_learn_173 (by decide) ?_
      obtain ⟨y645, y646, y647, y648, f644⟩ := hS642.o13
      refine k_put 7 rfl dX7_learn_174 (show 2 ≤ 13 ∧ 13 < 434 by decide) hS642 f644 (fp_X7_70 rfl _ (Or.inl rfl)) (Nat.le_of_ble_eq_true rfl) (fun h649 hS650 => ?_)
      exact r_ret dX7_learn_177 (rt_v rfl) rfl
  | succ n ih =>
    intro k hk h hS 
    refine r_iload_n rfl dX7_learn_26 rfl ?_
    refine r_iload_n rfl dX7_learn_27 rfl ?_
    refine r_icmp_ge (tgt := 121) rfl rfl dX7_learn_28 (fun c601 => ?_) (fun c601 => ?_)
    · refine r_aload_n rfl dX7_learn_121 rfl ?_
      obtain ⟨y603, y604, y605, y606, f602⟩ := hS.o13
      refine r_getv 2 rfl dX7_learn_122 (show 2 ≤ 13 ∧ 13 < 434 by decide) f602 fl_X7_21 rfl ?_
      refine r_aload_n rfl dX7_learn_125 rfl ?_
      refine r_getv 0 rfl dX7_learn_126 (show 2 ≤ 13 ∧ 13 < 434 by decide) f602 fl_X7_12 rfl ?_
      obtain ⟨g608, hw609⟩ := hS.ws wsAt_18
      obtain ⟨g611, hw612⟩ := hS.ws wsAt_14
      refine cl_X7_57 rfl rfl dX7_learn_129 (show 2 ≤ 18 ∧ 18 < 434 by decide).1 (show 2 ≤ 18 ∧ 18 < 434 by decide).2 hw609.2.2.1 (Nat.le_of_ble_eq_true rfl) ((s_X10_become hw609 hw612 (by omega)).sh hS) ?_
      rintro _ h613 _ ⟨⟨rfl, -, rfl⟩, -, hS614, -⟩
      refine r_aload_n rfl dX7_learn_132 rfl ?_
      obtain ⟨y617, y618, y619, y620, f616⟩ := hS614.o13
      refine r_getv 2 rfl dX7_learn_133 (show 2 ≤ 13 ∧ 13 < 434 by decide) f616 fl_X7_21 rfl ?_
      refine r_aload_n rfl dX7_learn_136 rfl ?_
      refine cl_X7_60 rfl rfl dX7_learn_137 (show 2 ≤ 13 ∧ 13 < 434 by decide).1 (show 2 ≤ 13 ∧ 13 < 434 by decide).2 f616 (Nat.le_of_ble_eq_true rfl) ((s_X7_sharedLetters hS614 ).sh hS614) ?_
      rintro _ h621 _ ⟨⟨x623, rfl⟩, rfl, hS622, _⟩
      obtain ⟨g625, hw626⟩ := hS622.ws wsAt_18
      refine cl_X7_63 rfl rfl dX7_learn_140 (show 2 ≤ 18 ∧ 18 < 434 by decide).1 (show 2 ≤ 18 ∧ 18 < 434 by decide).2 hw626.2.2.1 (Nat.le_of_ble_eq_true rfl) ((s_X10_spreadBut hw626).sh hS622) ?_
      rintro _ h627 _ ⟨⟨rfl, -, rfl⟩, -, hS628, -⟩
      refine r_aload_n rfl dX7_learn_143 rfl ?_
      obtain ⟨y631, y632, y633, y634, f630⟩ := hS628.o13
      refine r_getv 3 rfl dX7_learn_144 (show 2 ≤ 13 ∧ 13 < 434 by decide) f630 fl_X7_24 rfl ?_
      refine r_aload_n rfl dX7_learn_147 rfl ?_
      refine r_getv 1 rfl dX7_learn_148 (show 2 ≤ 13 ∧ 13 < 434 by decide) f630 fl_X7_18 rfl ?_
      obtain ⟨g636, hw637⟩ := hS628.ws wsAt_20
      obtain ⟨g639, hw640⟩ := hS628.ws wsAt_16
      refine cl_X7_57 rfl rfl dX7_learn_151 (show 2 ≤ 20 ∧ 20 < 434 by decide).1 (show 2 ≤ 20 ∧ 20 < 434 by decide).2 hw637.2.2.1 (Nat.le_of_ble_eq_true rfl) ((s_X10_become hw637 hw640 (by omega)).sh hS628) ?_
      rintro _ h641 _ ⟨⟨rfl, -, rfl⟩, -, hS642, -⟩
      refine r_aload_n rfl dX7_learn_154 rfl ?_
      obtain ⟨y645, y646, y647, y648, f644⟩ := hS642.o13
      refine r_getv 3 rfl dX7_learn_155 (show 2 ≤ 13 ∧ 13 < 434 by decide) f644 fl_X7_24 rfl ?_
      refine r_aload_n rfl dX7_learn_158 rfl ?_
      refine cl_X7_60 rfl rfl dX7_learn_159 (show 2 ≤ 13 ∧ 13 < 434 by decide).1 (show 2 ≤ 13 ∧ 13 < 434 by decide).2 f644 (Nat.le_of_ble_eq_true rfl) ((s_X7_sharedLetters hS642 ).sh hS642) ?_
      rintro _ h649 _ ⟨⟨x651, rfl⟩, rfl, hS650, _⟩
      obtain ⟨g653, hw654⟩ := hS650.ws wsAt_20
      refine cl_X7_63 rfl rfl dX7_learn_162 (show 2 ≤ 20 ∧ 20 < 434 by decide).1 (show 2 ≤ 20 ∧ 20 < 434 by decide).2 hw654.2.2.1 (Nat.le_of_ble_eq_true rfl) ((s_X10_spreadBut hw654).sh hS650) ?_
      rintro _ h655 _ ⟨⟨rfl, -, rfl⟩, -, hS656, -⟩
      refine r_aload_n rfl dX7_learn_165 rfl ?_
      obtain ⟨y659, y660, y661, y662, f658⟩ := hS656.o13
      refine r_getv 3 rfl dX7_learn_166 (show 2 ≤ 13 ∧ 13 < 434 by decide) f658 fl_X7_24 rfl ?_
      obtain ⟨g664, hw665⟩ := hS656.ws wsAt_20
      refine cl_X7_67 rfl rfl dX7_learn_169 (show 2 ≤ 20 ∧ 20 < 434 by decide).1 (show 2 ≤ 20 ∧ 20 < 434 by decide).2 hw665.2.2.1 (Nat.le_of_ble_eq_true rfl) ((s_X10_turn hw665).sh hS656) ?_
      rintro _ h666 _ ⟨⟨rfl, -, rfl⟩, -, hS667, -⟩
      refine r_aload_n rfl dX7_learn_172 rfl ?_
      refine r_iconst (v := 0) rfl dX7_learn_173 (by decide) ?_
      obtain ⟨y670, y671, y672, y673, f669⟩ := hS667.o13
      refine k_put 7 rfl dX7_learn_174 (show 2 ≤ 13 ∧ 13 < 434 by decide) hS667 f669 (fp_X7_70 rfl _ (Or.inl rfl)) (Nat.le_of_ble_eq_true rfl) (fun h674 hS675 => ?_)
      exact r_ret dX7_learn_177 (rt_v rfl) rfl
    · refine r_iload_n rfl dX7_learn_31 rfl ?_
      refine r_aload_n rfl dX7_learn_32 rfl ?_
      refine r_alen (v := 40) rfl dX7_learn_33 (show 2 ≤ 12 ∧ 12 < 434 by decide).1 (show 2 ≤ 12 ∧ 12 < 434 by decide).2 hS.o12 (by decide) (by decide) ?_
      refine r_icmp_ge (tgt := 121) rfl rfl dX7_learn_34 (fun c => absurd c (show ¬ (40 : Int32) ≤ nI k from nI_ge (a := k) (b := 40) (by omega) (by decide))) (fun _ => ?_)
      refine r_aload_n rfl dX7_learn_37 rfl ?_
      refine r_iload_n rfl dX7_learn_38 rfl ?_
      refine r_aald (jn := k) (v := .ref (100 + 8 * k)) rfl dX7_learn_39 (show 2 ≤ 12 ∧ 12 < 434 by decide).1 (show 2 ≤ 12 ∧ 12 < 434 by decide).2 hS.o12 (by decide) (vp_in_nI (by omega) (by decide)) (nI_clamp (by omega)) (by show va_rf (if _ < _ then _ else _) = _; rw [if_pos (show k < 40 by omega)]; rfl) ?_
      refine r_aload_n rfl dX7_learn_40 rfl ?_
      obtain ⟨y678, y679, y680, y681, f677⟩ := hS.o13
      refine r_getv 4 rfl dX7_learn_41 (show 2 ≤ 13 ∧ 13 < 434 by decide) f677 fl_X7_27 rfl ?_
      refine r_sipush (v := 255) rfl dX7_learn_44 (by decide) ?_
      obtain ⟨y683, y684, y685, y686, y687, y688, f682⟩ := hS.ln (show k < 40 by omega)
      refine cl_X7_40 rfl rfl dX7_learn_47 (show 2 ≤ 100 + 8 * k ∧ 100 + 8 * k < 434 by omega).1 (show 2 ≤ 100 + 8 * k ∧ 100 + 8 * k < 434 by omega).2 f682 (Nat.le_of_ble_eq_true rfl) ((s_X3_gatherWorlds hS (show k < 40 by omega) wsAt_22).sh hS) ?_
      rintro _ h689 _ ⟨rfl, rfl, hS690, _⟩
      refine r_aload_n rfl dX7_learn_50 rfl ?_
      refine r_iload_n rfl dX7_learn_51 rfl ?_
      refine r_aald (jn := k) (v := .ref (100 + 8 * k)) rfl dX7_learn_52 (show 2 ≤ 12 ∧ 12 < 434 by decide).1 (show 2 ≤ 12 ∧ 12 < 434 by decide).2 hS690.o12 (by decide) (vp_in_nI (by omega) (by decide)) (nI_clamp (by omega)) (by show va_rf (if _ < _ then _ else _) = _; rw [if_pos (show k < 40 by omega)]; rfl) ?_
      obtain ⟨y693, y694, y695, y696, y697, y698, f692⟩ := hS690.ln (show k < 40 by omega)
      refine r_getv 3 rfl dX7_learn_53 (show 2 ≤ 100 + 8 * k ∧ 100 + 8 * k < 434 by omega) f692 fl_X7_46 rfl ?_
      refine r_iconst (v := 1) rfl dX7_learn_56 (by decide) ?_
      refine r_icmp_ne (tgt := 89) rfl rfl dX7_learn_57 (fun c699 => ?_) (fun c699 => ?_)
      · refine r_aload_n rfl dX7_learn_89 rfl ?_
        obtain ⟨y701, y702, y703, y704, f700⟩ := hS690.o13
        refine r_getv 1 rfl dX7_learn_90 (show 2 ≤ 13 ∧ 13 < 434 by decide) f700 fl_X7_18 rfl ?_
        refine r_aload_n rfl dX7_learn_93 rfl ?_
        refine r_getv 4 rfl dX7_learn_94 (show 2 ≤ 13 ∧ 13 < 434 by decide) f700 fl_X7_27 rfl ?_
        obtain ⟨g706, hw707⟩ := hS690.ws wsAt_16
        obtain ⟨g709, hw710⟩ := hS690.ws wsAt_22
        refine cl_X7_49 rfl rfl dX7_learn_97 (show 2 ≤ 16 ∧ 16 < 434 by decide).1 (show 2 ≤ 16 ∧ 16 < 434 by decide).2 hw707.2.2.1 (Nat.le_of_ble_eq_true rfl) ((s_X10_meet hw707 hw710 (by omega)).sh hS690) ?_
        rintro _ h711 _ ⟨⟨rfl, -, rfl⟩, -, hS712, -⟩
        refine r_aload_n rfl dX7_learn_100 rfl ?_
        refine r_dup rfl dX7_learn_101 rfl ?_
        obtain ⟨y715, y716, y717, y718, f714⟩ := hS712.o13
        refine r_getv 6 rfl dX7_learn_102 (show 2 ≤ 13 ∧ 13 < 434 by decide) f714 fl_X7_37 rfl ?_
        refine r_aload_n rfl dX7_learn_105 rfl ?_
        refine r_iload_n rfl dX7_learn_106 rfl ?_
        refine r_aald (jn := k) (v := .ref (100 + 8 * k)) rfl dX7_learn_107 (show 2 ≤ 12 ∧ 12 < 434 by decide).1 (show 2 ≤ 12 ∧ 12 < 434 by decide).2 hS712.o12 (by decide) (vp_in_nI (by omega) (by decide)) (nI_clamp (by omega)) (by show va_rf (if _ < _ then _ else _) = _; rw [if_pos (show k < 40 by omega)]; rfl) ?_
        obtain ⟨y721, y722, y723, y724, y725, y726, f720⟩ := hS712.ln (show k < 40 by omega)
        refine cl_X7_53 rfl rfl dX7_learn_108 (show 2 ≤ 100 + 8 * k ∧ 100 + 8 * k < 434 by omega).1 (show 2 ≤ 100 + 8 * k ∧ 100 + 8 * k < 434 by omega).2 f720 (Nat.le_of_ble_eq_true rfl) ((s_X3_letters hS712 (show k < 40 by omega)).sh hS712) ?_
        rintro _ h727 _ ⟨⟨x729, rfl⟩, rfl, hS728, _⟩
        refine r_ior rfl dX7_learn_111 ?_
        refine r_topi (fun x730 e731 => ?_)
        obtain ⟨y733, y734, y735, y736, f732⟩ := hS728.o13
        refine k_put 6 rfl dX7_learn_112 (show 2 ≤ 13 ∧ 13 < 434 by decide) hS728 f732 (fp_X7_37 rfl _) (Nat.le_of_ble_eq_true rfl) (fun h737 hS738 => ?_)
        obtain ⟨x739, e740⟩ : ∃ z : Int32, z = (nI k) + Int32.ofInt 1 := ⟨_, rfl⟩
        refine r_iinc (y := x739) (ls' := [some (.ref 13), some (.ref 12), some (.int c), some (.int x739)]) rfl dX7_learn_115 rfl e740.symm (Nat.le_of_ble_eq_true rfl) rfl ?_
        refine r_goto (pc' := 26) rfl dX7_learn_118 ?_
        have z741 : x739 = nI (k + 1) := by rw [e740]; exact nI_1 k
        subst z741
        exact ih (k + 1) (by omega) h737 hS738
      · refine r_aload_n rfl dX7_learn_60 rfl ?_
        obtain ⟨y743, y744, y745, y746, f742⟩ := hS690.o13
        refine r_getv 0 rfl dX7_learn_61 (show 2 ≤ 13 ∧ 13 < 434 by decide) f742 fl_X7_12 rfl ?_
        refine r_aload_n rfl dX7_learn_64 rfl ?_
        refine r_getv 4 rfl dX7_learn_65 (show 2 ≤ 13 ∧ 13 < 434 by decide) f742 fl_X7_27 rfl ?_
        obtain ⟨g748, hw749⟩ := hS690.ws wsAt_14
        obtain ⟨g751, hw752⟩ := hS690.ws wsAt_22
        refine cl_X7_49 rfl rfl dX7_learn_68 (show 2 ≤ 14 ∧ 14 < 434 by decide).1 (show 2 ≤ 14 ∧ 14 < 434 by decide).2 hw749.2.2.1 (Nat.le_of_ble_eq_true rfl) ((s_X10_meet hw749 hw752 (by omega)).sh hS690) ?_
        rintro _ h753 _ ⟨⟨rfl, -, rfl⟩, -, hS754, -⟩
        refine r_aload_n rfl dX7_learn_71 rfl ?_
        refine r_dup rfl dX7_learn_72 rfl ?_
        obtain ⟨y757, y758, y759, y760, f756⟩ := hS754.o13
        refine r_getv 5 rfl dX7_learn_73 (show 2 ≤ 13 ∧ 13 < 434 by decide) f756 fl_X7_33 rfl ?_
        refine r_aload_n rfl dX7_learn_76 rfl ?_
        refine r_iload_n rfl dX7_learn_77 rfl ?_
        refine r_aald (jn := k) (v := .ref (100 + 8 * k)) rfl dX7_learn_78 (show 2 ≤ 12 ∧ 12 < 434 by decide).1 (show 2 ≤ 12 ∧ 12 < 434 by decide).2 hS754.o12 (by decide) (vp_in_nI (by omega) (by decide)) (nI_clamp (by omega)) (by show va_rf (if _ < _ then _ else _) = _; rw [if_pos (show k < 40 by omega)]; rfl) ?_
        obtain ⟨y763, y764, y765, y766, y767, y768, f762⟩ := hS754.ln (show k < 40 by omega)
        refine cl_X7_53 rfl rfl dX7_learn_79 (show 2 ≤ 100 + 8 * k ∧ 100 + 8 * k < 434 by omega).1 (show 2 ≤ 100 + 8 * k ∧ 100 + 8 * k < 434 by omega).2 f762 (Nat.le_of_ble_eq_true rfl) ((s_X3_letters hS754 (show k < 40 by omega)).sh hS754) ?_
        rintro _ h769 _ ⟨⟨x771, rfl⟩, rfl, hS770, _⟩
        refine r_ior rfl dX7_learn_82 ?_
        refine r_topi (fun x772 e773 => ?_)
        obtain ⟨y775, y776, y777, y778, f774⟩ := hS770.o13
        refine k_put 5 rfl dX7_learn_83 (show 2 ≤ 13 ∧ 13 < 434 by decide) hS770 f774 (fp_X7_33 rfl _) (Nat.le_of_ble_eq_true rfl) (fun h779 hS780 => ?_)
        refine r_goto (pc' := 115) rfl dX7_learn_86 ?_
        obtain ⟨x781, e782⟩ : ∃ z : Int32, z = (nI k) + Int32.ofInt 1 := ⟨_, rfl⟩
        refine r_iinc (y := x781) (ls' := [some (.ref 13), some (.ref 12), some (.int c), some (.int x781)]) rfl dX7_learn_115 rfl e782.symm (Nat.le_of_ble_eq_true rfl) rfl ?_
        refine r_goto (pc' := 26) rfl dX7_learn_118 ?_
        have z783 : x781 = nI (k + 1) := by rw [e782]; exact nI_1 k
        subst z783
        exact ih (k + 1) (by omega) h779 hS780
set_option maxRecDepth 20000 in
theorem s_X7_learn {xs : Nat → Int32} {L d : Nat} {h : ev_H} (hS : SH h)  {c : Int32} : EV xs L (d + 4) 0 0 M_X7_learn 434 h 0 [some (.ref 13), some (.ref 12), some (.int c), none] [] (fun sz' h' r => r = []) := by
  refine r_aload_n rfl dX7_learn_0 rfl ?_
  obtain ⟨y52, y53, y54, y55, f51⟩ := hS.o13
  refine r_getv 0 rfl dX7_learn_1 (show 2 ≤ 13 ∧ 13 < 434 by decide) f51 fl_X7_12 rfl ?_
  obtain ⟨g57, hw58⟩ := hS.ws wsAt_14
  refine cl_X7_30 rfl rfl dX7_learn_4 (show 2 ≤ 14 ∧ 14 < 434 by decide).1 (show 2 ≤ 14 ∧ 14 < 434 by decide).2 hw58.2.2.1 (Nat.le_of_ble_eq_true rfl) ((s_X10_fill hw58).sh hS) ?_
  rintro _ h59 _ ⟨⟨rfl, -, rfl⟩, -, hS60, -⟩
  refine r_aload_n rfl dX7_learn_7 rfl ?_
  obtain ⟨y63, y64, y65, y66, f62⟩ := hS60.o13
  refine r_getv 1 rfl dX7_learn_8 (show 2 ≤ 13 ∧ 13 < 434 by decide) f62 fl_X7_18 rfl ?_
  obtain ⟨g68, hw69⟩ := hS60.ws wsAt_16
  refine cl_X7_30 rfl rfl dX7_learn_11 (show 2 ≤ 16 ∧ 16 < 434 by decide).1 (show 2 ≤ 16 ∧ 16 < 434 by decide).2 hw69.2.2.1 (Nat.le_of_ble_eq_true rfl) ((s_X10_fill hw69).sh hS60) ?_
  rintro _ h70 _ ⟨⟨rfl, -, rfl⟩, -, hS71, -⟩
  refine r_aload_n rfl dX7_learn_14 rfl ?_
  refine r_iconst (v := 0) rfl dX7_learn_15 (by decide) ?_
  obtain ⟨y74, y75, y76, y77, f73⟩ := hS71.o13
  refine k_put 5 rfl dX7_learn_16 (show 2 ≤ 13 ∧ 13 < 434 by decide) hS71 f73 (fp_X7_33 rfl _) (Nat.le_of_ble_eq_true rfl) (fun h78 hS79 => ?_)
  refine r_aload_n rfl dX7_learn_19 rfl ?_
  refine r_iconst (v := 0) rfl dX7_learn_20 (by decide) ?_
  obtain ⟨y81, y82, y83, y84, f80⟩ := hS79.o13
  refine k_put 6 rfl dX7_learn_21 (show 2 ≤ 13 ∧ 13 < 434 by decide) hS79 f80 (fp_X7_37 rfl _) (Nat.le_of_ble_eq_true rfl) (fun h85 hS86 => ?_)
  refine r_iconst (v := 0) rfl dX7_learn_24 (by decide) ?_
  refine r_istore_n (ls' := [some (.ref 13), some (.ref 12), some (.int c), some (.int 0)]) rfl dX7_learn_25 (Nat.le_of_ble_eq_true rfl) rfl ?_
  exact s_X7_learn_loop 40 0 rfl h85 hS86
