theorem dX12_copy_0 : decode cX12_copy 0 = .ok (.aload_n 0, 1) := by decide +kernel
theorem dX12_copy_1 : decode cX12_copy 1 = .ok (.iconst 0, 1) := by decide +kernel
theorem dX12_copy_2 : decode cX12_copy 2 = .ok (.putfield 57, 3) := by decide +kernel
theorem dX12_copy_5 : decode cX12_copy 5 = .ok (.iload_n 1, 1) := by decide +kernel
theorem dX12_copy_6 : decode cX12_copy 6 = .ok (.iconst 0, 1) := by decide +kernel
theorem dX12_copy_7 : decode cX12_copy 7 = .ok (.iconst 4, 1) := by decide +kernel
theorem dX12_copy_8 : decode cX12_copy 8 = .ok (.invokestatic 60, 3) := by decide +kernel
theorem dX12_copy_11 : decode cX12_copy 11 = .ok (.ifCond .eq 25, 3) := by decide +kernel
theorem dX12_copy_14 : decode cX12_copy 14 = .ok (.iload_n 2, 1) := by decide +kernel
theorem dX12_copy_15 : decode cX12_copy 15 = .ok (.iconst 0, 1) := by decide +kernel
theorem dX12_copy_16 : decode cX12_copy 16 = .ok (.sipush 255, 3) := by decide +kernel
theorem dX12_copy_19 : decode cX12_copy 19 = .ok (.invokestatic 60, 3) := by decide +kernel
theorem dX12_copy_22 : decode cX12_copy 22 = .ok (.ifCond .eq 14, 3) := by decide +kernel
theorem dX12_copy_25 : decode cX12_copy 25 = .ok (.iload_n 3, 1) := by decide +kernel
theorem dX12_copy_26 : decode cX12_copy 26 = .ok (.iload_n 2, 1) := by decide +kernel
theorem dX12_copy_27 : decode cX12_copy 27 = .ok (.sipush 255, 3) := by decide +kernel
theorem dX12_copy_30 : decode cX12_copy 30 = .ok (.invokestatic 60, 3) := by decide +kernel
theorem dX12_copy_33 : decode cX12_copy 33 = .ok (.ifCond .ne 5, 3) := by decide +kernel
theorem dX12_copy_36 : decode cX12_copy 36 = .ok (.iconst (-1), 1) := by decide +kernel
theorem dX12_copy_37 : decode cX12_copy 37 = .ok (.ireturn, 1) := by decide +kernel
theorem dX12_copy_38 : decode cX12_copy 38 = .ok (.aload_n 0, 1) := by decide +kernel
theorem dX12_copy_39 : decode cX12_copy 39 = .ok (.iload_n 1, 1) := by decide +kernel
theorem dX12_copy_40 : decode cX12_copy 40 = .ok (.aload_n 0, 1) := by decide +kernel
theorem dX12_copy_41 : decode cX12_copy 41 = .ok (.getfield 48, 3) := by decide +kernel
theorem dX12_copy_44 : decode cX12_copy 44 = .ok (.invokevirtual 170, 3) := by decide +kernel
theorem dX12_copy_47 : decode cX12_copy 47 = .ok (.ifCond .ne 6, 3) := by decide +kernel
theorem dX12_copy_50 : decode cX12_copy 50 = .ok (.bipush (-2), 2) := by decide +kernel
theorem dX12_copy_52 : decode cX12_copy 52 = .ok (.ireturn, 1) := by decide +kernel
theorem dX12_copy_53 : decode cX12_copy 53 = .ok (.iconst 0, 1) := by decide +kernel
theorem dX12_copy_54 : decode cX12_copy 54 = .ok (.istore 4, 2) := by decide +kernel
theorem dX12_copy_56 : decode cX12_copy 56 = .ok (.iload_n 2, 1) := by decide +kernel
theorem dX12_copy_57 : decode cX12_copy 57 = .ok (.istore 5, 2) := by decide +kernel
theorem dX12_copy_59 : decode cX12_copy 59 = .ok (.iload 5, 2) := by decide +kernel
theorem dX12_copy_61 : decode cX12_copy 61 = .ok (.iload_n 3, 1) := by decide +kernel
theorem dX12_copy_62 : decode cX12_copy 62 = .ok (.if_icmp .gt 92, 3) := by decide +kernel
theorem dX12_copy_65 : decode cX12_copy 65 = .ok (.lconst 1, 1) := by decide +kernel
theorem dX12_copy_66 : decode cX12_copy 66 = .ok (.iload 5, 2) := by decide +kernel
theorem dX12_copy_68 : decode cX12_copy 68 = .ok (.bipush 63, 2) := by decide +kernel
theorem dX12_copy_70 : decode cX12_copy 70 = .ok (.iand, 1) := by decide +kernel
theorem dX12_copy_71 : decode cX12_copy 71 = .ok (.lshl, 1) := by decide +kernel
theorem dX12_copy_72 : decode cX12_copy 72 = .ok (.lstore 6, 2) := by decide +kernel
theorem dX12_copy_74 : decode cX12_copy 74 = .ok (.iload 4, 2) := by decide +kernel
theorem dX12_copy_76 : decode cX12_copy 76 = .ok (.aload_n 0, 1) := by decide +kernel
theorem dX12_copy_77 : decode cX12_copy 77 = .ok (.getfield 45, 3) := by decide +kernel
theorem dX12_copy_80 : decode cX12_copy 80 = .ok (.iconst 0, 1) := by decide +kernel
theorem dX12_copy_81 : decode cX12_copy 81 = .ok (.iload 5, 2) := by decide +kernel
theorem dX12_copy_83 : decode cX12_copy 83 = .ok (.invokestatic 143, 3) := by decide +kernel
theorem dX12_copy_86 : decode cX12_copy 86 = .ok (.aload_n 0, 1) := by decide +kernel
theorem dX12_copy_87 : decode cX12_copy 87 = .ok (.getfield 48, 3) := by decide +kernel
theorem dX12_copy_90 : decode cX12_copy 90 = .ok (.iconst 0, 1) := by decide +kernel
theorem dX12_copy_91 : decode cX12_copy 91 = .ok (.iload 5, 2) := by decide +kernel
theorem dX12_copy_93 : decode cX12_copy 93 = .ok (.invokestatic 143, 3) := by decide +kernel
theorem dX12_copy_96 : decode cX12_copy 96 = .ok (.if_icmp .eq 7, 3) := by decide +kernel
theorem dX12_copy_99 : decode cX12_copy 99 = .ok (.iconst 1, 1) := by decide +kernel
theorem dX12_copy_100 : decode cX12_copy 100 = .ok (.goto 4, 3) := by decide +kernel
theorem dX12_copy_103 : decode cX12_copy 103 = .ok (.iconst 0, 1) := by decide +kernel
theorem dX12_copy_104 : decode cX12_copy 104 = .ok (.iadd, 1) := by decide +kernel
theorem dX12_copy_105 : decode cX12_copy 105 = .ok (.istore 4, 2) := by decide +kernel
theorem dX12_copy_107 : decode cX12_copy 107 = .ok (.aload_n 0, 1) := by decide +kernel
theorem dX12_copy_108 : decode cX12_copy 108 = .ok (.getfield 45, 3) := by decide +kernel
theorem dX12_copy_111 : decode cX12_copy 111 = .ok (.iload 5, 2) := by decide +kernel
theorem dX12_copy_113 : decode cX12_copy 113 = .ok (.bipush 6, 2) := by decide +kernel
theorem dX12_copy_115 : decode cX12_copy 115 = .ok (.ishr, 1) := by decide +kernel
theorem dX12_copy_116 : decode cX12_copy 116 = .ok (.aload_n 0, 1) := by decide +kernel
theorem dX12_copy_117 : decode cX12_copy 117 = .ok (.getfield 45, 3) := by decide +kernel
theorem dX12_copy_120 : decode cX12_copy 120 = .ok (.iload 5, 2) := by decide +kernel
theorem dX12_copy_122 : decode cX12_copy 122 = .ok (.bipush 6, 2) := by decide +kernel
theorem dX12_copy_124 : decode cX12_copy 124 = .ok (.ishr, 1) := by decide +kernel
theorem dX12_copy_125 : decode cX12_copy 125 = .ok (.laload, 1) := by decide +kernel
theorem dX12_copy_126 : decode cX12_copy 126 = .ok (.lload 6, 2) := by decide +kernel
theorem dX12_copy_128 : decode cX12_copy 128 = .ok (.ldc2_w 137, 3) := by decide +kernel
theorem dX12_copy_131 : decode cX12_copy 131 = .ok (.lxor, 1) := by decide +kernel
theorem dX12_copy_132 : decode cX12_copy 132 = .ok (.land, 1) := by decide +kernel
theorem dX12_copy_133 : decode cX12_copy 133 = .ok (.aload_n 0, 1) := by decide +kernel
theorem dX12_copy_134 : decode cX12_copy 134 = .ok (.getfield 48, 3) := by decide +kernel
theorem dX12_copy_137 : decode cX12_copy 137 = .ok (.iload 5, 2) := by decide +kernel
theorem dX12_copy_139 : decode cX12_copy 139 = .ok (.bipush 6, 2) := by decide +kernel
theorem dX12_copy_141 : decode cX12_copy 141 = .ok (.ishr, 1) := by decide +kernel
theorem dX12_copy_142 : decode cX12_copy 142 = .ok (.laload, 1) := by decide +kernel
theorem dX12_copy_143 : decode cX12_copy 143 = .ok (.lload 6, 2) := by decide +kernel
theorem dX12_copy_145 : decode cX12_copy 145 = .ok (.land, 1) := by decide +kernel
theorem dX12_copy_146 : decode cX12_copy 146 = .ok (.lor, 1) := by decide +kernel
theorem dX12_copy_147 : decode cX12_copy 147 = .ok (.lastore, 1) := by decide +kernel
theorem dX12_copy_148 : decode cX12_copy 148 = .ok (.iinc 5 1, 3) := by decide +kernel
theorem dX12_copy_151 : decode cX12_copy 151 = .ok (.goto (-92), 3) := by decide +kernel
theorem dX12_copy_154 : decode cX12_copy 154 = .ok (.iload 4, 2) := by decide +kernel
theorem dX12_copy_156 : decode cX12_copy 156 = .ok (.ireturn, 1) := by decide +kernel
theorem dX12_fewest_0 : decode cX12_fewest 0 = .ok (.aload_n 0, 1) := by decide +kernel
theorem dX12_fewest_1 : decode cX12_fewest 1 = .ok (.iconst 0, 1) := by decide +kernel
theorem dX12_fewest_2 : decode cX12_fewest 2 = .ok (.putfield 57, 3) := by decide +kernel
theorem dX12_fewest_5 : decode cX12_fewest 5 = .ok (.iload_n 1, 1) := by decide +kernel
theorem dX12_fewest_6 : decode cX12_fewest 6 = .ok (.iconst 0, 1) := by decide +kernel
theorem dX12_fewest_7 : decode cX12_fewest 7 = .ok (.iconst 1, 1) := by decide +kernel
theorem dX12_fewest_8 : decode cX12_fewest 8 = .ok (.invokestatic 60, 3) := by decide +kernel
theorem dX12_fewest_11 : decode cX12_fewest 11 = .ok (.ifCond .ne 5, 3) := by decide +kernel
theorem dX12_fewest_14 : decode cX12_fewest 14 = .ok (.iconst (-1), 1) := by decide +kernel
theorem dX12_fewest_15 : decode cX12_fewest 15 = .ok (.ireturn, 1) := by decide +kernel
theorem dX12_fewest_16 : decode cX12_fewest 16 = .ok (.aload_n 0, 1) := by decide +kernel
theorem dX12_fewest_17 : decode cX12_fewest 17 = .ok (.invokevirtual 133, 3) := by decide +kernel
theorem dX12_fewest_20 : decode cX12_fewest 20 = .ok (.istore_n 2, 1) := by decide +kernel
theorem dX12_fewest_21 : decode cX12_fewest 21 = .ok (.bipush (-9), 2) := by decide +kernel
theorem dX12_fewest_23 : decode cX12_fewest 23 = .ok (.istore_n 3, 1) := by decide +kernel
theorem dX12_fewest_24 : decode cX12_fewest 24 = .ok (.iconst 0, 1) := by decide +kernel
theorem dX12_fewest_25 : decode cX12_fewest 25 = .ok (.istore 4, 2) := by decide +kernel
theorem dX12_fewest_27 : decode cX12_fewest 27 = .ok (.iload 4, 2) := by decide +kernel
theorem dX12_fewest_29 : decode cX12_fewest 29 = .ok (.sipush 256, 3) := by decide +kernel
theorem dX12_fewest_32 : decode cX12_fewest 32 = .ok (.if_icmp .ge 111, 3) := by decide +kernel
theorem dX12_fewest_35 : decode cX12_fewest 35 = .ok (.iload 4, 2) := by decide +kernel
theorem dX12_fewest_37 : decode cX12_fewest 37 = .ok (.iload_n 2, 1) := by decide +kernel
theorem dX12_fewest_38 : decode cX12_fewest 38 = .ok (.iconst (-1), 1) := by decide +kernel
theorem dX12_fewest_39 : decode cX12_fewest 39 = .ok (.ixor, 1) := by decide +kernel
theorem dX12_fewest_40 : decode cX12_fewest 40 = .ok (.iand, 1) := by decide +kernel
theorem dX12_fewest_41 : decode cX12_fewest 41 = .ok (.ifCond .ne 96, 3) := by decide +kernel
theorem dX12_fewest_44 : decode cX12_fewest 44 = .ok (.iload_n 3, 1) := by decide +kernel
theorem dX12_fewest_45 : decode cX12_fewest 45 = .ok (.bipush (-9), 2) := by decide +kernel
theorem dX12_fewest_47 : decode cX12_fewest 47 = .ok (.if_icmp .eq 15, 3) := by decide +kernel
theorem dX12_fewest_50 : decode cX12_fewest 50 = .ok (.iload 4, 2) := by decide +kernel
theorem dX12_fewest_52 : decode cX12_fewest 52 = .ok (.invokestatic 177, 3) := by decide +kernel
theorem dX12_fewest_55 : decode cX12_fewest 55 = .ok (.iload_n 3, 1) := by decide +kernel
theorem dX12_fewest_56 : decode cX12_fewest 56 = .ok (.invokestatic 177, 3) := by decide +kernel
theorem dX12_fewest_59 : decode cX12_fewest 59 = .ok (.if_icmp .ge 78, 3) := by decide +kernel
theorem dX12_fewest_62 : decode cX12_fewest 62 = .ok (.aload_n 0, 1) := by decide +kernel
theorem dX12_fewest_63 : decode cX12_fewest 63 = .ok (.getfield 33, 3) := by decide +kernel
theorem dX12_fewest_66 : decode cX12_fewest 66 = .ok (.aload_n 0, 1) := by decide +kernel
theorem dX12_fewest_67 : decode cX12_fewest 67 = .ok (.getfield 48, 3) := by decide +kernel
theorem dX12_fewest_70 : decode cX12_fewest 70 = .ok (.iload 4, 2) := by decide +kernel
theorem dX12_fewest_72 : decode cX12_fewest 72 = .ok (.invokestatic 139, 3) := by decide +kernel
theorem dX12_fewest_75 : decode cX12_fewest 75 = .ok (.iconst 1, 1) := by decide +kernel
theorem dX12_fewest_76 : decode cX12_fewest 76 = .ok (.istore 5, 2) := by decide +kernel
theorem dX12_fewest_78 : decode cX12_fewest 78 = .ok (.iconst 0, 1) := by decide +kernel
theorem dX12_fewest_79 : decode cX12_fewest 79 = .ok (.istore 6, 2) := by decide +kernel
theorem dX12_fewest_81 : decode cX12_fewest 81 = .ok (.iload 6, 2) := by decide +kernel
theorem dX12_fewest_83 : decode cX12_fewest 83 = .ok (.iconst 4, 1) := by decide +kernel
theorem dX12_fewest_84 : decode cX12_fewest 84 = .ok (.if_icmp .ge 41, 3) := by decide +kernel
theorem dX12_fewest_87 : decode cX12_fewest 87 = .ok (.iload 5, 2) := by decide +kernel
theorem dX12_fewest_89 : decode cX12_fewest 89 = .ok (.ifCond .eq 27, 3) := by decide +kernel
theorem dX12_fewest_92 : decode cX12_fewest 92 = .ok (.aload_n 0, 1) := by decide +kernel
theorem dX12_fewest_93 : decode cX12_fewest 93 = .ok (.getfield 48, 3) := by decide +kernel
theorem dX12_fewest_96 : decode cX12_fewest 96 = .ok (.iload 6, 2) := by decide +kernel
theorem dX12_fewest_98 : decode cX12_fewest 98 = .ok (.laload, 1) := by decide +kernel
theorem dX12_fewest_99 : decode cX12_fewest 99 = .ok (.aload_n 0, 1) := by decide +kernel
theorem dX12_fewest_100 : decode cX12_fewest 100 = .ok (.getfield 36, 3) := by decide +kernel
theorem dX12_fewest_103 : decode cX12_fewest 103 = .ok (.iload 6, 2) := by decide +kernel
theorem dX12_fewest_105 : decode cX12_fewest 105 = .ok (.laload, 1) := by decide +kernel
theorem dX12_fewest_106 : decode cX12_fewest 106 = .ok (.land, 1) := by decide +kernel
theorem dX12_fewest_107 : decode cX12_fewest 107 = .ok (.lconst 0, 1) := by decide +kernel
theorem dX12_fewest_108 : decode cX12_fewest 108 = .ok (.lcmp, 1) := by decide +kernel
theorem dX12_fewest_109 : decode cX12_fewest 109 = .ok (.ifCond .ne 7, 3) := by decide +kernel
theorem dX12_fewest_112 : decode cX12_fewest 112 = .ok (.iconst 1, 1) := by decide +kernel
theorem dX12_fewest_113 : decode cX12_fewest 113 = .ok (.goto 4, 3) := by decide +kernel
theorem dX12_fewest_116 : decode cX12_fewest 116 = .ok (.iconst 0, 1) := by decide +kernel
theorem dX12_fewest_117 : decode cX12_fewest 117 = .ok (.istore 5, 2) := by decide +kernel
theorem dX12_fewest_119 : decode cX12_fewest 119 = .ok (.iinc 6 1, 3) := by decide +kernel
theorem dX12_fewest_122 : decode cX12_fewest 122 = .ok (.goto (-41), 3) := by decide +kernel
theorem dX12_fewest_125 : decode cX12_fewest 125 = .ok (.iload 5, 2) := by decide +kernel
theorem dX12_fewest_127 : decode cX12_fewest 127 = .ok (.ifCond .eq 8, 3) := by decide +kernel
theorem dX12_fewest_130 : decode cX12_fewest 130 = .ok (.iload 4, 2) := by decide +kernel
theorem dX12_fewest_132 : decode cX12_fewest 132 = .ok (.goto 4, 3) := by decide +kernel
theorem dX12_fewest_135 : decode cX12_fewest 135 = .ok (.iload_n 3, 1) := by decide +kernel
theorem dX12_fewest_136 : decode cX12_fewest 136 = .ok (.istore_n 3, 1) := by decide +kernel
theorem dX12_fewest_137 : decode cX12_fewest 137 = .ok (.iinc 4 1, 3) := by decide +kernel
theorem dX12_fewest_140 : decode cX12_fewest 140 = .ok (.goto (-113), 3) := by decide +kernel
theorem dX12_fewest_143 : decode cX12_fewest 143 = .ok (.iload_n 3, 1) := by decide +kernel
theorem dX12_fewest_144 : decode cX12_fewest 144 = .ok (.bipush (-9), 2) := by decide +kernel
theorem dX12_fewest_146 : decode cX12_fewest 146 = .ok (.if_icmp .eq 8, 3) := by decide +kernel
theorem dX12_fewest_149 : decode cX12_fewest 149 = .ok (.iload_n 1, 1) := by decide +kernel
theorem dX12_fewest_150 : decode cX12_fewest 150 = .ok (.iconst 1, 1) := by decide +kernel
theorem dX12_fewest_151 : decode cX12_fewest 151 = .ok (.if_icmp .ne 7, 3) := by decide +kernel
theorem dX12_fewest_154 : decode cX12_fewest 154 = .ok (.iload_n 3, 1) := by decide +kernel
theorem dX12_fewest_155 : decode cX12_fewest 155 = .ok (.goto 7, 3) := by decide +kernel
theorem dX12_fewest_158 : decode cX12_fewest 158 = .ok (.iload_n 3, 1) := by decide +kernel
theorem dX12_fewest_159 : decode cX12_fewest 159 = .ok (.invokestatic 177, 3) := by decide +kernel
theorem dX12_fewest_162 : decode cX12_fewest 162 = .ok (.ireturn, 1) := by decide +kernel
theorem dX12_used_0 : decode cX12_used 0 = .ok (.aload_n 0, 1) := by decide +kernel
theorem dX12_used_1 : decode cX12_used 1 = .ok (.iconst 0, 1) := by decide +kernel
theorem dX12_used_2 : decode cX12_used 2 = .ok (.putfield 57, 3) := by decide +kernel
theorem dX12_used_5 : decode cX12_used 5 = .ok (.aload_n 0, 1) := by decide +kernel
theorem dX12_used_6 : decode cX12_used 6 = .ok (.invokevirtual 154, 3) := by decide +kernel
theorem dX12_used_9 : decode cX12_used 9 = .ok (.istore_n 1, 1) := by decide +kernel
theorem dX12_used_10 : decode cX12_used 10 = .ok (.iload_n 1, 1) := by decide +kernel
theorem dX12_used_11 : decode cX12_used 11 = .ok (.bipush (-9), 2) := by decide +kernel
theorem dX12_used_13 : decode cX12_used 13 = .ok (.if_icmp .ne 6, 3) := by decide +kernel
theorem dX12_used_16 : decode cX12_used 16 = .ok (.bipush (-2), 2) := by decide +kernel
theorem dX12_used_18 : decode cX12_used 18 = .ok (.ireturn, 1) := by decide +kernel
theorem dX12_used_19 : decode cX12_used 19 = .ok (.lconst 1, 1) := by decide +kernel
theorem dX12_used_20 : decode cX12_used 20 = .ok (.iload_n 1, 1) := by decide +kernel
theorem dX12_used_21 : decode cX12_used 21 = .ok (.lshl, 1) := by decide +kernel
theorem dX12_used_22 : decode cX12_used 22 = .ok (.lstore_n 2, 1) := by decide +kernel
theorem dX12_used_23 : decode cX12_used 23 = .ok (.iload_n 1, 1) := by decide +kernel
theorem dX12_used_24 : decode cX12_used 24 = .ok (.istore 4, 2) := by decide +kernel
theorem dX12_used_26 : decode cX12_used 26 = .ok (.iload 4, 2) := by decide +kernel
theorem dX12_used_28 : decode cX12_used 28 = .ok (.aload_n 0, 1) := by decide +kernel
theorem dX12_used_29 : decode cX12_used 29 = .ok (.getfield 112, 3) := by decide +kernel
theorem dX12_used_32 : decode cX12_used 32 = .ok (.if_icmp .lt 56, 3) := by decide +kernel
theorem dX12_used_35 : decode cX12_used 35 = .ok (.lload_n 2, 1) := by decide +kernel
theorem dX12_used_36 : decode cX12_used 36 = .ok (.lload_n 2, 1) := by decide +kernel
theorem dX12_used_37 : decode cX12_used 37 = .ok (.iload 4, 2) := by decide +kernel
theorem dX12_used_39 : decode cX12_used 39 = .ok (.lshr, 1) := by decide +kernel
theorem dX12_used_40 : decode cX12_used 40 = .ok (.lconst 1, 1) := by decide +kernel
theorem dX12_used_41 : decode cX12_used 41 = .ok (.land, 1) := by decide +kernel
theorem dX12_used_42 : decode cX12_used 42 = .ok (.lconst 1, 1) := by decide +kernel
theorem dX12_used_43 : decode cX12_used 43 = .ok (.lcmp, 1) := by decide +kernel
theorem dX12_used_44 : decode cX12_used 44 = .ok (.ifCond .ne 35, 3) := by decide +kernel
theorem dX12_used_47 : decode cX12_used 47 = .ok (.lconst 1, 1) := by decide +kernel
theorem dX12_used_48 : decode cX12_used 48 = .ok (.aload_n 0, 1) := by decide +kernel
theorem dX12_used_49 : decode cX12_used 49 = .ok (.getfield 17, 3) := by decide +kernel
theorem dX12_used_52 : decode cX12_used 52 = .ok (.bipush 6, 2) := by decide +kernel
theorem dX12_used_54 : decode cX12_used 54 = .ok (.iload 4, 2) := by decide +kernel
theorem dX12_used_56 : decode cX12_used 56 = .ok (.imul, 1) := by decide +kernel
theorem dX12_used_57 : decode cX12_used 57 = .ok (.iconst 3, 1) := by decide +kernel
theorem dX12_used_58 : decode cX12_used 58 = .ok (.iadd, 1) := by decide +kernel
theorem dX12_used_59 : decode cX12_used 59 = .ok (.iaload, 1) := by decide +kernel
theorem dX12_used_60 : decode cX12_used 60 = .ok (.lshl, 1) := by decide +kernel
theorem dX12_used_61 : decode cX12_used 61 = .ok (.lconst 1, 1) := by decide +kernel
theorem dX12_used_62 : decode cX12_used 62 = .ok (.aload_n 0, 1) := by decide +kernel
theorem dX12_used_63 : decode cX12_used 63 = .ok (.getfield 17, 3) := by decide +kernel
theorem dX12_used_66 : decode cX12_used 66 = .ok (.bipush 6, 2) := by decide +kernel
theorem dX12_used_68 : decode cX12_used 68 = .ok (.iload 4, 2) := by decide +kernel
theorem dX12_used_70 : decode cX12_used 70 = .ok (.imul, 1) := by decide +kernel
theorem dX12_used_71 : decode cX12_used 71 = .ok (.iconst 4, 1) := by decide +kernel
theorem dX12_used_72 : decode cX12_used 72 = .ok (.iadd, 1) := by decide +kernel
theorem dX12_used_73 : decode cX12_used 73 = .ok (.iaload, 1) := by decide +kernel
theorem dX12_used_74 : decode cX12_used 74 = .ok (.lshl, 1) := by decide +kernel
theorem dX12_used_75 : decode cX12_used 75 = .ok (.lor, 1) := by decide +kernel
theorem dX12_used_76 : decode cX12_used 76 = .ok (.goto 4, 3) := by decide +kernel
theorem dX12_used_79 : decode cX12_used 79 = .ok (.lconst 0, 1) := by decide +kernel
theorem dX12_used_80 : decode cX12_used 80 = .ok (.lor, 1) := by decide +kernel
theorem dX12_used_81 : decode cX12_used 81 = .ok (.lstore_n 2, 1) := by decide +kernel
theorem dX12_used_82 : decode cX12_used 82 = .ok (.iinc 4 (-1), 3) := by decide +kernel
theorem dX12_used_85 : decode cX12_used 85 = .ok (.goto (-59), 3) := by decide +kernel
theorem dX12_used_88 : decode cX12_used 88 = .ok (.lload_n 2, 1) := by decide +kernel
theorem dX12_used_89 : decode cX12_used 89 = .ok (.lconst 1, 1) := by decide +kernel
theorem dX12_used_90 : decode cX12_used 90 = .ok (.aload_n 0, 1) := by decide +kernel
theorem dX12_used_91 : decode cX12_used 91 = .ok (.getfield 112, 3) := by decide +kernel
theorem dX12_used_94 : decode cX12_used 94 = .ok (.lshl, 1) := by decide +kernel
theorem dX12_used_95 : decode cX12_used 95 = .ok (.lconst 1, 1) := by decide +kernel
theorem dX12_used_96 : decode cX12_used 96 = .ok (.lsub, 1) := by decide +kernel
theorem dX12_used_97 : decode cX12_used 97 = .ok (.land, 1) := by decide +kernel
theorem dX12_used_98 : decode cX12_used 98 = .ok (.l2i, 1) := by decide +kernel
theorem dX12_used_99 : decode cX12_used 99 = .ok (.ireturn, 1) := by decide +kernel
theorem dX12_needed_0 : decode cX12_needed 0 = .ok (.aload_n 0, 1) := by decide +kernel
theorem dX12_needed_1 : decode cX12_needed 1 = .ok (.iconst 0, 1) := by decide +kernel
theorem dX12_needed_2 : decode cX12_needed 2 = .ok (.putfield 57, 3) := by decide +kernel
theorem dX12_needed_5 : decode cX12_needed 5 = .ok (.iload_n 1, 1) := by decide +kernel
theorem dX12_needed_6 : decode cX12_needed 6 = .ok (.iconst 0, 1) := by decide +kernel
theorem dX12_needed_7 : decode cX12_needed 7 = .ok (.iconst 1, 1) := by decide +kernel
theorem dX12_needed_8 : decode cX12_needed 8 = .ok (.invokestatic 60, 3) := by decide +kernel
theorem dX12_needed_11 : decode cX12_needed 11 = .ok (.ifCond .ne 5, 3) := by decide +kernel
theorem dX12_needed_14 : decode cX12_needed 14 = .ok (.iconst (-1), 1) := by decide +kernel
theorem dX12_needed_15 : decode cX12_needed 15 = .ok (.ireturn, 1) := by decide +kernel
theorem dX12_needed_16 : decode cX12_needed 16 = .ok (.bipush (-9), 2) := by decide +kernel
theorem dX12_needed_18 : decode cX12_needed 18 = .ok (.istore_n 2, 1) := by decide +kernel
theorem dX12_needed_19 : decode cX12_needed 19 = .ok (.aload_n 0, 1) := by decide +kernel
theorem dX12_needed_20 : decode cX12_needed 20 = .ok (.iconst 1, 1) := by decide +kernel
theorem dX12_needed_21 : decode cX12_needed 21 = .ok (.aload_n 0, 1) := by decide +kernel
theorem dX12_needed_22 : decode cX12_needed 22 = .ok (.getfield 112, 3) := by decide +kernel
theorem dX12_needed_25 : decode cX12_needed 25 = .ok (.ishl, 1) := by decide +kernel
theorem dX12_needed_26 : decode cX12_needed 26 = .ok (.iconst 1, 1) := by decide +kernel
theorem dX12_needed_27 : decode cX12_needed 27 = .ok (.isub, 1) := by decide +kernel
theorem dX12_needed_28 : decode cX12_needed 28 = .ok (.invokevirtual 180, 3) := by decide +kernel
theorem dX12_needed_31 : decode cX12_needed 31 = .ok (.ifCond .eq 48, 3) := by decide +kernel
theorem dX12_needed_34 : decode cX12_needed 34 = .ok (.iconst 0, 1) := by decide +kernel
theorem dX12_needed_35 : decode cX12_needed 35 = .ok (.istore_n 3, 1) := by decide +kernel
theorem dX12_needed_36 : decode cX12_needed 36 = .ok (.iload_n 3, 1) := by decide +kernel
theorem dX12_needed_37 : decode cX12_needed 37 = .ok (.iconst 1, 1) := by decide +kernel
theorem dX12_needed_38 : decode cX12_needed 38 = .ok (.aload_n 0, 1) := by decide +kernel
theorem dX12_needed_39 : decode cX12_needed 39 = .ok (.getfield 112, 3) := by decide +kernel
theorem dX12_needed_42 : decode cX12_needed 42 = .ok (.ishl, 1) := by decide +kernel
theorem dX12_needed_43 : decode cX12_needed 43 = .ok (.if_icmp .ge 36, 3) := by decide +kernel
theorem dX12_needed_46 : decode cX12_needed 46 = .ok (.iload_n 2, 1) := by decide +kernel
theorem dX12_needed_47 : decode cX12_needed 47 = .ok (.bipush (-9), 2) := by decide +kernel
theorem dX12_needed_49 : decode cX12_needed 49 = .ok (.if_icmp .eq 14, 3) := by decide +kernel
theorem dX12_needed_52 : decode cX12_needed 52 = .ok (.iload_n 3, 1) := by decide +kernel
theorem dX12_needed_53 : decode cX12_needed 53 = .ok (.invokestatic 177, 3) := by decide +kernel
theorem dX12_needed_56 : decode cX12_needed 56 = .ok (.iload_n 2, 1) := by decide +kernel
theorem dX12_needed_57 : decode cX12_needed 57 = .ok (.invokestatic 177, 3) := by decide +kernel
theorem dX12_needed_60 : decode cX12_needed 60 = .ok (.if_icmp .ge 13, 3) := by decide +kernel
theorem dX12_needed_63 : decode cX12_needed 63 = .ok (.aload_n 0, 1) := by decide +kernel
theorem dX12_needed_64 : decode cX12_needed 64 = .ok (.iload_n 3, 1) := by decide +kernel
theorem dX12_needed_65 : decode cX12_needed 65 = .ok (.invokevirtual 180, 3) := by decide +kernel
theorem dX12_needed_68 : decode cX12_needed 68 = .ok (.ifCond .eq 5, 3) := by decide +kernel
theorem dX12_needed_71 : decode cX12_needed 71 = .ok (.iload_n 3, 1) := by decide +kernel
theorem dX12_needed_72 : decode cX12_needed 72 = .ok (.istore_n 2, 1) := by decide +kernel
theorem dX12_needed_73 : decode cX12_needed 73 = .ok (.iinc 3 1, 3) := by decide +kernel
theorem dX12_needed_76 : decode cX12_needed 76 = .ok (.goto (-40), 3) := by decide +kernel
theorem dX12_needed_79 : decode cX12_needed 79 = .ok (.iload_n 2, 1) := by decide +kernel
theorem dX12_needed_80 : decode cX12_needed 80 = .ok (.bipush (-9), 2) := by decide +kernel
theorem dX12_needed_82 : decode cX12_needed 82 = .ok (.if_icmp .eq 8, 3) := by decide +kernel
theorem dX12_needed_85 : decode cX12_needed 85 = .ok (.iload_n 1, 1) := by decide +kernel
theorem dX12_needed_86 : decode cX12_needed 86 = .ok (.iconst 1, 1) := by decide +kernel
theorem dX12_needed_87 : decode cX12_needed 87 = .ok (.if_icmp .ne 7, 3) := by decide +kernel
theorem dX12_needed_90 : decode cX12_needed 90 = .ok (.iload_n 2, 1) := by decide +kernel
theorem dX12_needed_91 : decode cX12_needed 91 = .ok (.goto 7, 3) := by decide +kernel
theorem dX12_needed_94 : decode cX12_needed 94 = .ok (.iload_n 2, 1) := by decide +kernel
theorem dX12_needed_95 : decode cX12_needed 95 = .ok (.invokestatic 177, 3) := by decide +kernel
theorem dX12_needed_98 : decode cX12_needed 98 = .ok (.ireturn, 1) := by decide +kernel
theorem nI_m1 {c : Nat} (h : c < 2 ^ 31) : nI 0 - 1 < nI c := by
  rw [Int32.lt_iff_toInt_lt, nI_toInt h, show (nI 0 - 1).toInt = -1 from rfl]
  omega
set_option maxRecDepth 20000 in
set_option maxHeartbeats 1000000 in
theorem lp_X12_copy_59 {xs : Nat → Int32} {L d : Nat} {Q : ev_Q} {th : Int32} {tr : Int64} {ty nx tk pl va fa ss wg : Int32} {c m : Nat} {j58 : Nat} {j65 : Nat} {j72 : Nat} {h0 : ev_H} (h5 : h0 420 = c420 th tr ty nx tk pl va fa (nI c) (nI m) ss wg) (hc : c ≤ 16) (hm : m ≤ 24) (hb_j58 : j58 < 4 + 1) (hb_j65 : j65 < 255 + 1) (hb_j72 : j72 < 255 + 1) : ∀ (n k : Nat), k + n = (j72 + 1) → ∀ (h : ev_H) (hS : SH h) (hF : KM [431, 432, 433] h0 h) (y4 : Int32) (u6 : Option Value) (u6b : Option Value) (hK : ∀ (h : ev_H) (hS : SH h) (hF : KM [431, 432, 433] h0 h) (kx : Int32) (y4 : Int32) (u6 : Option Value) (u6b : Option Value), EV xs L (d + 2) 0 0 M_X12_copy 434 h 154 [some (.ref 420), some (.int (nI j58)), some (.int (nI j65)), some (.int (nI j72)), some (.int y4), some (.int kx), u6, u6b] [] Q), EV xs L (d + 2) 0 0 M_X12_copy 434 h 59 [some (.ref 420), some (.int (nI j58)), some (.int (nI j65)), some (.int (nI j72)), some (.int y4), some (.int (nI k)), u6, u6b] [] Q := by
  intro n
  induction n with
  | zero =>
    intro k hk h hS hF y4 u6 u6b hK
    refine r_iload rfl dX12_copy_59 rfl ?_
    refine r_iload_n rfl dX12_copy_61 rfl ?_
    refine r_icmp_gt (tgt := 154) rfl rfl dX12_copy_62 (fun _ => ?_) (fun zc => absurd (show (nI j72) < nI k from nI_lt (a := j72) (b := k) (by omega) (by omega)) zc)
    exact hK h hS hF (nI k) y4 u6 u6b
  | succ n ih =>
    intro k hk h hS hF y4 u6 u6b hK
    refine r_iload rfl dX12_copy_59 rfl ?_
    refine r_iload_n rfl dX12_copy_61 rfl ?_
    refine r_icmp_gt (tgt := 154) rfl rfl dX12_copy_62 (fun zc => absurd zc (show ¬ (nI j72) < nI k from nI_nlt (a := j72) (b := k) (by omega) (by omega))) (fun _ => ?_)
    refine r_lconst (v := 1) rfl dX12_copy_65 (by decide) ?_
    refine r_iload rfl dX12_copy_66 rfl ?_
    refine r_bipush (v := 63) rfl dX12_copy_68 (by decide) ?_
    refine r_iand rfl dX12_copy_70 ?_
    refine r_eqi (y := nI (k % 64)) (show (nI k) &&& 63 = nI (k % 64) from pk_andN (n := k) (by omega) (m := 63) 6 (by decide)) ?_
    refine r_lshl rfl dX12_copy_71 ?_
    refine r_topl (fun x184 e185 => ?_)
    refine r_lstore (ls' := [some (.ref 420), some (.int (nI j58)), some (.int (nI j65)), some (.int (nI j72)), some (.int y4), some (.int (nI k)), some (.long x184), none]) rfl dX12_copy_72 (Nat.le_of_ble_eq_true rfl) rfl ?_
    refine r_iload rfl dX12_copy_74 rfl ?_
    refine r_aload_n rfl dX12_copy_76 rfl ?_
    refine r_getv 22 rfl dX12_copy_77 (show 2 ≤ 420 ∧ 420 < 434 by decide) ((hF 420 (by decide)).trans h5) fl_X12_45 rfl ?_
    refine r_iconst (v := 0) rfl dX12_copy_80 (by decide) ?_
    refine r_iload rfl dX12_copy_81 rfl ?_
    refine cl_X12_143 rfl rfl dX12_copy_83 (Nat.le_of_ble_eq_true rfl) (s_X12_has hS LA_431 (by omega) (q := 0) (w := k) (by omega) (by omega)) ?_
    rintro _ h186 _ ⟨rfl, e187, x188, z189, rfl⟩
    replace e187 := e187.symm
    subst e187
    refine r_aload_n rfl dX12_copy_86 rfl ?_
    refine r_getv 23 rfl dX12_copy_87 (show 2 ≤ 420 ∧ 420 < 434 by decide) ((hF 420 (by decide)).trans h5) fl_X12_48 rfl ?_
    refine r_iconst (v := 0) rfl dX12_copy_90 (by decide) ?_
    refine r_iload rfl dX12_copy_91 rfl ?_
    refine cl_X12_143 rfl rfl dX12_copy_93 (Nat.le_of_ble_eq_true rfl) (s_X12_has hS LA_432 (by omega) (q := 0) (w := k) (by omega) (by omega)) ?_
    rintro _ h190 _ ⟨rfl, e191, x192, z193, rfl⟩
    replace e191 := e191.symm
    subst e191
    have J194 : ∀ v195 : Int32, EV xs L (d + 2) 0 0 M_X12_copy 434 h 104 [some (.ref 420), some (.int (nI j58)), some (.int (nI j65)), some (.int (nI j72)), some (.int y4), some (.int (nI k)), some (.long x184), none] (.int v195 :: .int y4 :: []) Q := by
      intro v195
      refine r_iadd rfl dX12_copy_104 ?_
      refine r_topi (fun x196 e197 => ?_)
      refine r_istore (ls' := [some (.ref 420), some (.int (nI j58)), some (.int (nI j65)), some (.int (nI j72)), some (.int x196), some (.int (nI k)), some (.long x184), none]) rfl dX12_copy_105 (Nat.le_of_ble_eq_true rfl) rfl ?_
      refine r_aload_n rfl dX12_copy_107 rfl ?_
      refine r_getv 22 rfl dX12_copy_108 (show 2 ≤ 420 ∧ 420 < 434 by decide) ((hF 420 (by decide)).trans h5) fl_X12_45 rfl ?_
      refine r_iload rfl dX12_copy_111 rfl ?_
      refine r_bipush (v := 6) rfl dX12_copy_113 (by decide) ?_
      refine r_ishr rfl dX12_copy_115 ?_
      refine r_eqi (y := nI (k / 64)) (show (nI k) >>> (6 &&& 31) = nI (k / 64) from pk_shrN (n := k) (by omega) ((6 : Int32) &&& 31) 6 (by decide)) ?_
      refine r_aload_n rfl dX12_copy_116 rfl ?_
      refine r_getv 22 rfl dX12_copy_117 (show 2 ≤ 420 ∧ 420 < 434 by decide) ((hF 420 (by decide)).trans h5) fl_X12_45 rfl ?_
      refine r_iload rfl dX12_copy_120 rfl ?_
      refine r_bipush (v := 6) rfl dX12_copy_122 (by decide) ?_
      refine r_ishr rfl dX12_copy_124 ?_
      refine r_eqi (y := nI (k / 64)) (show (nI k) >>> (6 &&& 31) = nI (k / 64) from pk_shrN (n := k) (by omega) ((6 : Int32) &&& 31) 6 (by decide)) ?_
      obtain ⟨g198, f199⟩ := hS.la LA_431
      refine r_laldv (jn := k / 64) (v := g198 (k / 64)) rfl dX12_copy_125 (show 2 ≤ 431 ∧ 431 < 434 by decide) f199 (vp_in_nI (n := k / 64) (by omega) (by omega)) (nI_clamp (n := k / 64) (by omega)) rfl ?_
      refine r_lload rfl dX12_copy_126 rfl ?_
      refine r_ldc2 (v := (-1)) rfl dX12_copy_128 lc_X12_137 ?_
      refine r_lxor rfl dX12_copy_131 ?_
      refine r_land rfl dX12_copy_132 ?_
      refine r_aload_n rfl dX12_copy_133 rfl ?_
      refine r_getv 23 rfl dX12_copy_134 (show 2 ≤ 420 ∧ 420 < 434 by decide) ((hF 420 (by decide)).trans h5) fl_X12_48 rfl ?_
      refine r_iload rfl dX12_copy_137 rfl ?_
      refine r_bipush (v := 6) rfl dX12_copy_139 (by decide) ?_
      refine r_ishr rfl dX12_copy_141 ?_
      refine r_eqi (y := nI (k / 64)) (show (nI k) >>> (6 &&& 31) = nI (k / 64) from pk_shrN (n := k) (by omega) ((6 : Int32) &&& 31) 6 (by decide)) ?_
      obtain ⟨g200, f201⟩ := hS.la LA_432
      refine r_laldv (jn := k / 64) (v := g200 (k / 64)) rfl dX12_copy_142 (show 2 ≤ 432 ∧ 432 < 434 by decide) f201 (vp_in_nI (n := k / 64) (by omega) (by omega)) (nI_clamp (n := k / 64) (by omega)) rfl ?_
      refine r_lload rfl dX12_copy_143 rfl ?_
      refine r_land rfl dX12_copy_145 ?_
      refine r_lor rfl dX12_copy_146 ?_
      obtain ⟨g202, f203⟩ := hS.la LA_431
      refine m_last rfl dX12_copy_147 (show 2 ≤ 431 ∧ 431 < 434 by decide) hS hF (by decide) f203 (vp_in_nI (n := k / 64) (by omega) (by omega)) (fun h204 hS205 hF206 hN207 => ?_)
      refine r_iinc (y := nI (k + 1)) (ls' := [some (.ref 420), some (.int (nI j58)), some (.int (nI j65)), some (.int (nI j72)), some (.int x196), some (.int (nI (k + 1))), some (.long x184), none]) rfl dX12_copy_148 rfl (nI_1 k) (Nat.le_of_ble_eq_true rfl) rfl ?_
      refine r_goto (pc' := 59) rfl dX12_copy_151 ?_
      exact ih (k + 1) (by omega) h204 hS205 hF206 x196 (some (.long x184)) none hK
    refine r_icmp_eq (tgt := 103) rfl rfl dX12_copy_96 (fun c208 => ?_) (fun c208 => ?_)
    · refine r_iconst (v := 0) rfl dX12_copy_103 (by decide) ?_
      exact J194 _
    · refine r_iconst (v := 1) rfl dX12_copy_99 (by decide) ?_
      refine r_goto (pc' := 104) rfl dX12_copy_100 ?_
      exact J194 _
set_option maxRecDepth 20000 in
set_option maxHeartbeats 1000000 in
theorem s_X12_copy {xs : Nat → Int32} {L d : Nat} {h : ev_H} {th : Int32} {tr : Int64} {ty nx tk pl va fa ss wg : Int32} {c m : Nat} {x y z : Int32} (hS : SH h) (h5 : h 420 = c420 th tr ty nx tk pl va fa (nI c) (nI m) ss wg) (hc : c ≤ 16) (hm : m ≤ 24) : EV xs L (d + 2) 0 0 M_X12_copy 434 h 0 [some (.ref 420), some (.int x), some (.int y), some (.int z), none, none, none, none] [] (fun sz' h' r => sz' = 434 ∧ SH h' ∧ KM [420, 431, 432, 433] h h' ∧ (∃ x : Int32, r = [.int x]) ∧ ∃ tr', h' 420 = c420 0 tr' ty nx tk pl va fa (nI c) (nI m) ss wg) := by
  refine r_aload_n rfl dX12_copy_0 rfl ?_
  refine r_iconst (v := 0) rfl dX12_copy_1 (by decide) ?_
  refine m_put 0 (fs' := [.int 0, .long tr, .ref 421, .int ty, .int nx, .int tk, .int pl, .int va, .int fa, .int (nI c), .int (nI m), .int ss, .int wg, .ref 422, .ref 423, .ref 424, .ref 425, .ref 426, .ref 427, .ref 428, .ref 429, .ref 430, .ref 431, .ref 432, .ref 433]) rfl dX12_copy_2 hS (KM_rf (Mod := [420, 431, 432, 433]) h) (by decide) h5 (fp_X12_57 rfl _) (Nat.le_of_ble_eq_true rfl) rfl (fun h51 hS52 hF53 f54 => ?_)
  refine r_iload_n rfl dX12_copy_5 rfl ?_
  refine r_iconst (v := 0) rfl dX12_copy_6 (by decide) ?_
  refine r_iconst (v := 4) rfl dX12_copy_7 (by decide) ?_
  refine cl_X12_60 rfl rfl dX12_copy_8 (Nat.le_of_ble_eq_true rfl) s_X12_in ?_
  rintro _ h55 _ ⟨rfl, e56, rfl⟩
  replace e56 := e56.symm
  subst e56
  refine r_if_eq (tgt := 36) rfl rfl dX12_copy_11 (fun c57 => ?_) (fun c57 => ?_)
  · refine r_iconst (v := (-1)) rfl dX12_copy_36 (by decide) ?_
    exact r_ret dX12_copy_37 (rt_i rfl) ⟨rfl, hS52, hF53, ⟨_, rfl⟩, ⟨_, f54⟩⟩
  · obtain ⟨j58, q59, q60, e61⟩ := inR_nat (a := 0) (b := 4) (by omega) c57
    subst e61
    refine r_iload_n rfl dX12_copy_14 rfl ?_
    refine r_iconst (v := 0) rfl dX12_copy_15 (by decide) ?_
    refine r_sipush (v := 255) rfl dX12_copy_16 (by decide) ?_
    refine cl_X12_60 rfl rfl dX12_copy_19 (Nat.le_of_ble_eq_true rfl) s_X12_in ?_
    rintro _ h62 _ ⟨rfl, e63, rfl⟩
    replace e63 := e63.symm
    subst e63
    refine r_if_eq (tgt := 36) rfl rfl dX12_copy_22 (fun c64 => ?_) (fun c64 => ?_)
    · refine r_iconst (v := (-1)) rfl dX12_copy_36 (by decide) ?_
      exact r_ret dX12_copy_37 (rt_i rfl) ⟨rfl, hS52, hF53, ⟨_, rfl⟩, ⟨_, f54⟩⟩
    · obtain ⟨j65, q66, q67, e68⟩ := inR_nat (a := 0) (b := 255) (by omega) c64
      subst e68
      refine r_iload_n rfl dX12_copy_25 rfl ?_
      refine r_iload_n rfl dX12_copy_26 rfl ?_
      refine r_sipush (v := 255) rfl dX12_copy_27 (by decide) ?_
      refine cl_X12_60 rfl rfl dX12_copy_30 (Nat.le_of_ble_eq_true rfl) s_X12_in ?_
      rintro _ h69 _ ⟨rfl, e70, rfl⟩
      replace e70 := e70.symm
      subst e70
      refine r_if_ne (tgt := 38) rfl rfl dX12_copy_33 (fun c71 => ?_) (fun c71 => ?_)
      · obtain ⟨j72, q73, q74, e75⟩ := inR_nat (a := j65) (b := 255) (by omega) c71
        subst e75
        refine r_aload_n rfl dX12_copy_38 rfl ?_
        refine r_iload_n rfl dX12_copy_39 rfl ?_
        refine r_aload_n rfl dX12_copy_40 rfl ?_
        refine r_getv 23 rfl dX12_copy_41 (show 2 ≤ 420 ∧ 420 < 434 by decide) f54 fl_X12_48 rfl ?_
        refine cl_X12_170 rfl rfl dX12_copy_44 (show 2 ≤ 420 ∧ 420 < 434 by decide).1 (show 2 ≤ 420 ∧ 420 < 434 by decide).2 f54 (Nat.le_of_ble_eq_true rfl) (s_X12_takes (q := j58) hS52 f54 hc hm (by omega) LA_432 (by decide)) ?_
        rintro _ h76 _ ⟨rfl, hS77, hK78, x79, z80, rfl⟩
        have hF81 := KM_tr hF53 (KM_sb (by decide) hK78)
        have f82 : h76 420 = c420 0 tr ty nx tk pl va fa (nI c) (nI m) ss wg := (hK78 420 (by decide)).trans f54
        refine r_if_ne (tgt := 53) rfl rfl dX12_copy_47 (fun c83 => ?_) (fun c83 => ?_)
        · refine r_iconst (v := 0) rfl dX12_copy_53 (by decide) ?_
          refine r_istore (ls' := [some (.ref 420), some (.int (nI j58)), some (.int (nI j65)), some (.int (nI j72)), some (.int 0), none, none, none]) rfl dX12_copy_54 (Nat.le_of_ble_eq_true rfl) rfl ?_
          refine r_iload_n rfl dX12_copy_56 rfl ?_
          refine r_istore (ls' := [some (.ref 420), some (.int (nI j58)), some (.int (nI j65)), some (.int (nI j72)), some (.int 0), some (.int (nI j65)), none, none]) rfl dX12_copy_57 (Nat.le_of_ble_eq_true rfl) rfl ?_
          refine lp_X12_copy_59 f82 hc hm (by omega) (by omega) (by omega) (j72 + 1 - j65) j65 (by omega) h76 hS77 (KM_rf _) 0 none none ?_
          intro h88 hS89 hK90 kx84 w85 w86 w87
          have hF91 := KM_tr hF81 (KM_sb (by decide) hK90)
          have f92 : h88 420 = c420 0 tr ty nx tk pl va fa (nI c) (nI m) ss wg := (hK90 420 (by decide)).trans f82
          refine r_iload rfl dX12_copy_154 rfl ?_
          exact r_ret dX12_copy_156 (rt_i rfl) ⟨rfl, hS89, hF91, ⟨_, rfl⟩, ⟨_, f92⟩⟩
        · refine r_bipush (v := (-2)) rfl dX12_copy_50 (by decide) ?_
          exact r_ret dX12_copy_52 (rt_i rfl) ⟨rfl, hS77, hF81, ⟨_, rfl⟩, ⟨_, f82⟩⟩
      · refine r_iconst (v := (-1)) rfl dX12_copy_36 (by decide) ?_
        exact r_ret dX12_copy_37 (rt_i rfl) ⟨rfl, hS52, hF53, ⟨_, rfl⟩, ⟨_, f54⟩⟩
set_option maxRecDepth 20000 in
set_option maxHeartbeats 1000000 in
theorem lp_X12_fewest_81 {xs : Nat → Int32} {L d : Nat} {Q : ev_Q} {th : Int32} {tr : Int64} {ty nx tk pl va fa ss wg : Int32} {c m : Nat} {j58 : Nat} {xf2 : Int32} {xf3 : Int32} {k : Nat} {h0 : ev_H} (h5 : h0 420 = c420 th tr ty nx tk pl va fa (nI c) (nI m) ss wg) (hc : c ≤ 16) (hm : m ≤ 24) (hb_j58 : j58 < 1 + 1) (hb_k : k < 256) : ∀ (n ka : Nat), ka + n = 4 → ∀ (h : ev_H) (hS : SH h) (hF : KM [431, 432, 433] h0 h) (y5 : Int32) (hK : ∀ (h : ev_H) (hS : SH h) (hF : KM [431, 432, 433] h0 h) (kx : Int32) (y5 : Int32), EV xs L (d + 2) 0 0 M_X12_fewest 434 h 125 [some (.ref 420), some (.int (nI j58)), some (.int xf2), some (.int xf3), some (.int (nI k)), some (.int y5), some (.int kx)] [] Q), EV xs L (d + 2) 0 0 M_X12_fewest 434 h 81 [some (.ref 420), some (.int (nI j58)), some (.int xf2), some (.int xf3), some (.int (nI k)), some (.int y5), some (.int (nI ka))] [] Q := by
  intro n
  induction n with
  | zero =>
    intro ka hk h hS hF y5 hK
    refine r_iload rfl dX12_fewest_81 rfl ?_
    refine r_iconst (v := 4) rfl dX12_fewest_83 (by decide) ?_
    refine r_icmp_ge (tgt := 125) rfl rfl dX12_fewest_84 (fun _ => ?_) (fun zc => absurd (show 4 ≤ nI ka from nI_le (a := 4) (b := ka) (by omega) (by omega)) zc)
    exact hK h hS hF (nI ka) y5
  | succ n ih =>
    intro ka hk h hS hF y5 hK
    refine r_iload rfl dX12_fewest_81 rfl ?_
    refine r_iconst (v := 4) rfl dX12_fewest_83 (by decide) ?_
    refine r_icmp_ge (tgt := 125) rfl rfl dX12_fewest_84 (fun zc => absurd zc (show ¬ 4 ≤ nI ka from nI_ge (a := ka) (b := 4) (by omega) (by omega))) (fun _ => ?_)
    refine r_iload rfl dX12_fewest_87 rfl ?_
    have J271 : ∀ v272 : Int32, EV xs L (d + 2) 0 0 M_X12_fewest 434 h 117 [some (.ref 420), some (.int (nI j58)), some (.int xf2), some (.int xf3), some (.int (nI k)), some (.int y5), some (.int (nI ka))] (.int v272 :: []) Q := by
      intro v272
      refine r_istore (ls' := [some (.ref 420), some (.int (nI j58)), some (.int xf2), some (.int xf3), some (.int (nI k)), some (.int v272), some (.int (nI ka))]) rfl dX12_fewest_117 (Nat.le_of_ble_eq_true rfl) rfl ?_
      refine r_iinc (y := nI (ka + 1)) (ls' := [some (.ref 420), some (.int (nI j58)), some (.int xf2), some (.int xf3), some (.int (nI k)), some (.int v272), some (.int (nI (ka + 1)))]) rfl dX12_fewest_119 rfl (nI_1 ka) (Nat.le_of_ble_eq_true rfl) rfl ?_
      refine r_goto (pc' := 81) rfl dX12_fewest_122 ?_
      exact ih (ka + 1) (by omega) h hS hF v272 hK
    refine r_if_eq (tgt := 116) rfl rfl dX12_fewest_89 (fun c273 => ?_) (fun c273 => ?_)
    · refine r_iconst (v := 0) rfl dX12_fewest_116 (by decide) ?_
      exact J271 _
    · refine r_aload_n rfl dX12_fewest_92 rfl ?_
      refine r_getv 23 rfl dX12_fewest_93 (show 2 ≤ 420 ∧ 420 < 434 by decide) ((hF 420 (by decide)).trans h5) fl_X12_48 rfl ?_
      refine r_iload rfl dX12_fewest_96 rfl ?_
      obtain ⟨g274, f275⟩ := hS.la LA_432
      refine r_laldv (jn := ka) (v := g274 ka) rfl dX12_fewest_98 (show 2 ≤ 432 ∧ 432 < 434 by decide) f275 (vp_in_nI (n := ka) (by omega) (by omega)) (nI_clamp (n := ka) (by omega)) rfl ?_
      refine r_aload_n rfl dX12_fewest_99 rfl ?_
      refine r_getv 19 rfl dX12_fewest_100 (show 2 ≤ 420 ∧ 420 < 434 by decide) ((hF 420 (by decide)).trans h5) fl_X12_36 rfl ?_
      refine r_iload rfl dX12_fewest_103 rfl ?_
      obtain ⟨g276, f277⟩ := hS.la LA_428
      refine r_laldv (jn := ka) (v := g276 ka) rfl dX12_fewest_105 (show 2 ≤ 428 ∧ 428 < 434 by decide) f277 (vp_in_nI (n := ka) (by omega) (by omega)) (nI_clamp (n := ka) (by omega)) rfl ?_
      refine r_land rfl dX12_fewest_106 ?_
      refine r_lconst (v := 0) rfl dX12_fewest_107 (by decide) ?_
      refine r_lcmp rfl dX12_fewest_108 ?_
      refine r_if_ne (tgt := 116) rfl rfl dX12_fewest_109 (fun c278 => ?_) (fun c278 => ?_)
      · refine r_iconst (v := 0) rfl dX12_fewest_116 (by decide) ?_
        exact J271 _
      · refine r_iconst (v := 1) rfl dX12_fewest_112 (by decide) ?_
        refine r_goto (pc' := 117) rfl dX12_fewest_113 ?_
        exact J271 _
set_option maxRecDepth 20000 in
set_option maxHeartbeats 1000000 in
theorem lp_X12_fewest_81b {xs : Nat → Int32} {L d : Nat} {Q : ev_Q} {th : Int32} {tr : Int64} {ty nx tk pl va fa ss wg : Int32} {c m : Nat} {j58 : Nat} {xf2 : Int32} {xf3 : Int32} {k : Nat} {h0 : ev_H} (h5 : h0 420 = c420 th tr ty nx tk pl va fa (nI c) (nI m) ss wg) (hc : c ≤ 16) (hm : m ≤ 24) (hb_j58 : j58 < 1 + 1) (hb_k : k < 256) : ∀ (n ka : Nat), ka + n = 4 → ∀ (h : ev_H) (hS : SH h) (hF : KM [431, 432, 433] h0 h) (y5 : Int32) (hK : ∀ (h : ev_H) (hS : SH h) (hF : KM [431, 432, 433] h0 h) (kx : Int32) (y5 : Int32), EV xs L (d + 2) 0 0 M_X12_fewest 434 h 125 [some (.ref 420), some (.int (nI j58)), some (.int xf2), some (.int xf3), some (.int (nI k)), some (.int y5), some (.int kx)] [] Q), EV xs L (d + 2) 0 0 M_X12_fewest 434 h 81 [some (.ref 420), some (.int (nI j58)), some (.int xf2), some (.int xf3), some (.int (nI k)), some (.int y5), some (.int (nI ka))] [] Q := by
  intro n
  induction n with
  | zero =>
    intro ka hk h hS hF y5 hK
    refine r_iload rfl dX12_fewest_81 rfl ?_
    refine r_iconst (v := 4) rfl dX12_fewest_83 (by decide) ?_
    refine r_icmp_ge (tgt := 125) rfl rfl dX12_fewest_84 (fun _ => ?_) (fun zc => absurd (show 4 ≤ nI ka from nI_le (a := 4) (b := ka) (by omega) (by omega)) zc)
    exact hK h hS hF (nI ka) y5
  | succ n ih =>
    intro ka hk h hS hF y5 hK
    refine r_iload rfl dX12_fewest_81 rfl ?_
    refine r_iconst (v := 4) rfl dX12_fewest_83 (by decide) ?_
    refine r_icmp_ge (tgt := 125) rfl rfl dX12_fewest_84 (fun zc => absurd zc (show ¬ 4 ≤ nI ka from nI_ge (a := ka) (b := 4) (by omega) (by omega))) (fun _ => ?_)
    refine r_iload rfl dX12_fewest_87 rfl ?_
    have J291 : ∀ v292 : Int32, EV xs L (d + 2) 0 0 M_X12_fewest 434 h 117 [some (.ref 420), some (.int (nI j58)), some (.int xf2), some (.int xf3), some (.int (nI k)), some (.int y5), some (.int (nI ka))] (.int v292 :: []) Q := by
      intro v292
      refine r_istore (ls' := [some (.ref 420), some (.int (nI j58)), some (.int xf2), some (.int xf3), some (.int (nI k)), some (.int v292), some (.int (nI ka))]) rfl dX12_fewest_117 (Nat.le_of_ble_eq_true rfl) rfl ?_
      refine r_iinc (y := nI (ka + 1)) (ls' := [some (.ref 420), some (.int (nI j58)), some (.int xf2), some (.int xf3), some (.int (nI k)), some (.int v292), some (.int (nI (ka + 1)))]) rfl dX12_fewest_119 rfl (nI_1 ka) (Nat.le_of_ble_eq_true rfl) rfl ?_
      refine r_goto (pc' := 81) rfl dX12_fewest_122 ?_
      exact ih (ka + 1) (by omega) h hS hF v292 hK
    refine r_if_eq (tgt := 116) rfl rfl dX12_fewest_89 (fun c293 => ?_) (fun c293 => ?_)
    · refine r_iconst (v := 0) rfl dX12_fewest_116 (by decide) ?_
      exact J291 _
    · refine r_aload_n rfl dX12_fewest_92 rfl ?_
      refine r_getv 23 rfl dX12_fewest_93 (show 2 ≤ 420 ∧ 420 < 434 by decide) ((hF 420 (by decide)).trans h5) fl_X12_48 rfl ?_
      refine r_iload rfl dX12_fewest_96 rfl ?_
      obtain ⟨g294, f295⟩ := hS.la LA_432
      refine r_laldv (jn := ka) (v := g294 ka) rfl dX12_fewest_98 (show 2 ≤ 432 ∧ 432 < 434 by decide) f295 (vp_in_nI (n := ka) (by omega) (by omega)) (nI_clamp (n := ka) (by omega)) rfl ?_
      refine r_aload_n rfl dX12_fewest_99 rfl ?_
      refine r_getv 19 rfl dX12_fewest_100 (show 2 ≤ 420 ∧ 420 < 434 by decide) ((hF 420 (by decide)).trans h5) fl_X12_36 rfl ?_
      refine r_iload rfl dX12_fewest_103 rfl ?_
      obtain ⟨g296, f297⟩ := hS.la LA_428
      refine r_laldv (jn := ka) (v := g296 ka) rfl dX12_fewest_105 (show 2 ≤ 428 ∧ 428 < 434 by decide) f297 (vp_in_nI (n := ka) (by omega) (by omega)) (nI_clamp (n := ka) (by omega)) rfl ?_
      refine r_land rfl dX12_fewest_106 ?_
      refine r_lconst (v := 0) rfl dX12_fewest_107 (by decide) ?_
      refine r_lcmp rfl dX12_fewest_108 ?_
      refine r_if_ne (tgt := 116) rfl rfl dX12_fewest_109 (fun c298 => ?_) (fun c298 => ?_)
      · refine r_iconst (v := 0) rfl dX12_fewest_116 (by decide) ?_
        exact J291 _
      · refine r_iconst (v := 1) rfl dX12_fewest_112 (by decide) ?_
        refine r_goto (pc' := 117) rfl dX12_fewest_113 ?_
        exact J291 _
set_option maxRecDepth 20000 in
set_option maxHeartbeats 1000000 in
theorem lp_X12_fewest_27 {xs : Nat → Int32} {L d : Nat} {Q : ev_Q} {th : Int32} {tr : Int64} {ty nx tk pl va fa ss wg : Int32} {c m : Nat} {j58 : Nat} {xf2 : Int32} {h0 : ev_H} (h5 : h0 420 = c420 th tr ty nx tk pl va fa (nI c) (nI m) ss wg) (hc : c ≤ 16) (hm : m ≤ 24) (hb_j58 : j58 < 1 + 1) : ∀ (n k : Nat), k + n = 256 → ∀ (h : ev_H) (hS : SH h) (hF : KM [431, 432, 433] h0 h) (y3 : Int32) (u5 : Option Value) (u6 : Option Value) (hK : ∀ (h : ev_H) (hS : SH h) (hF : KM [431, 432, 433] h0 h) (kx : Int32) (y3 : Int32) (u5 : Option Value) (u6 : Option Value), EV xs L (d + 2) 0 0 M_X12_fewest 434 h 143 [some (.ref 420), some (.int (nI j58)), some (.int xf2), some (.int y3), some (.int kx), u5, u6] [] Q), EV xs L (d + 2) 0 0 M_X12_fewest 434 h 27 [some (.ref 420), some (.int (nI j58)), some (.int xf2), some (.int y3), some (.int (nI k)), u5, u6] [] Q := by
  intro n
  induction n with
  | zero =>
    intro k hk h hS hF y3 u5 u6 hK
    refine r_iload rfl dX12_fewest_27 rfl ?_
    refine r_sipush (v := 256) rfl dX12_fewest_29 (by decide) ?_
    refine r_icmp_ge (tgt := 143) rfl rfl dX12_fewest_32 (fun _ => ?_) (fun zc => absurd (show 256 ≤ nI k from nI_le (a := 256) (b := k) (by omega) (by omega)) zc)
    exact hK h hS hF (nI k) y3 u5 u6
  | succ n ih =>
    intro k hk h hS hF y3 u5 u6 hK
    refine r_iload rfl dX12_fewest_27 rfl ?_
    refine r_sipush (v := 256) rfl dX12_fewest_29 (by decide) ?_
    refine r_icmp_ge (tgt := 143) rfl rfl dX12_fewest_32 (fun zc => absurd zc (show ¬ 256 ≤ nI k from nI_ge (a := k) (b := 256) (by omega) (by omega))) (fun _ => ?_)
    refine r_iload rfl dX12_fewest_35 rfl ?_
    refine r_iload_n rfl dX12_fewest_37 rfl ?_
    refine r_iconst (v := (-1)) rfl dX12_fewest_38 (by decide) ?_
    refine r_ixor rfl dX12_fewest_39 ?_
    refine r_iand rfl dX12_fewest_40 ?_
    refine r_if_ne (tgt := 137) rfl rfl dX12_fewest_41 (fun c165 => ?_) (fun c165 => ?_)
    · refine r_iinc (y := nI (k + 1)) (ls' := [some (.ref 420), some (.int (nI j58)), some (.int xf2), some (.int y3), some (.int (nI (k + 1))), u5, u6]) rfl dX12_fewest_137 rfl (nI_1 k) (Nat.le_of_ble_eq_true rfl) rfl ?_
      refine r_goto (pc' := 27) rfl dX12_fewest_140 ?_
      exact ih (k + 1) (by omega) h hS hF y3 u5 u6 hK
    · refine r_iload_n rfl dX12_fewest_44 rfl ?_
      refine r_bipush (v := (-9)) rfl dX12_fewest_45 (by decide) ?_
      refine r_icmp_eq (tgt := 62) rfl rfl dX12_fewest_47 (fun c166 => ?_) (fun c166 => ?_)
      · refine r_aload_n rfl dX12_fewest_62 rfl ?_
        refine r_getv 18 rfl dX12_fewest_63 (show 2 ≤ 420 ∧ 420 < 434 by decide) ((hF 420 (by decide)).trans h5) fl_X12_33 rfl ?_
        refine r_aload_n rfl dX12_fewest_66 rfl ?_
        refine r_getv 23 rfl dX12_fewest_67 (show 2 ≤ 420 ∧ 420 < 434 by decide) ((hF 420 (by decide)).trans h5) fl_X12_48 rfl ?_
        refine r_iload rfl dX12_fewest_70 rfl ?_
        refine cl_X12_139 rfl rfl dX12_fewest_72 (Nat.le_of_ble_eq_true rfl) (s_X12_spreads hS LA_427 LA_432) ?_
        rintro _ h167 _ ⟨rfl, hS168, hK169, rfl⟩
        have hF170 := KM_tr hF (KM_sb (by decide) hK169)
        refine r_iconst (v := 1) rfl dX12_fewest_75 (by decide) ?_
        refine r_istore (ls' := [some (.ref 420), some (.int (nI j58)), some (.int xf2), some (.int y3), some (.int (nI k)), some (.int 1), u6]) rfl dX12_fewest_76 (Nat.le_of_ble_eq_true rfl) rfl ?_
        refine r_iconst (v := 0) rfl dX12_fewest_78 (by decide) ?_
        refine r_istore (ls' := [some (.ref 420), some (.int (nI j58)), some (.int xf2), some (.int y3), some (.int (nI k)), some (.int 1), some (.int 0)]) rfl dX12_fewest_79 (Nat.le_of_ble_eq_true rfl) rfl ?_
        refine lp_X12_fewest_81 ((hF170 420 (by decide)).trans h5) hc hm hb_j58 (by omega) (4 - 0) 0 (by omega) h167 hS168 (KM_rf _) 1 ?_
        intro h173 hS174 hK175 kx171 w172
        have hF176 := KM_tr hF170 (KM_sb (by decide) hK175)
        refine r_iload rfl dX12_fewest_125 rfl ?_
        have J177 : ∀ v178 : Int32, EV xs L (d + 2) 0 0 M_X12_fewest 434 h173 136 [some (.ref 420), some (.int (nI j58)), some (.int xf2), some (.int y3), some (.int (nI k)), some (.int w172), some (.int kx171)] (.int v178 :: []) Q := by
          intro v178
          refine r_istore_n (ls' := [some (.ref 420), some (.int (nI j58)), some (.int xf2), some (.int v178), some (.int (nI k)), some (.int w172), some (.int kx171)]) rfl dX12_fewest_136 (Nat.le_of_ble_eq_true rfl) rfl ?_
          refine r_iinc (y := nI (k + 1)) (ls' := [some (.ref 420), some (.int (nI j58)), some (.int xf2), some (.int v178), some (.int (nI (k + 1))), some (.int w172), some (.int kx171)]) rfl dX12_fewest_137 rfl (nI_1 k) (Nat.le_of_ble_eq_true rfl) rfl ?_
          refine r_goto (pc' := 27) rfl dX12_fewest_140 ?_
          exact ih (k + 1) (by omega) h173 hS174 hF176 v178 (some (.int w172)) (some (.int kx171)) hK
        refine r_if_eq (tgt := 135) rfl rfl dX12_fewest_127 (fun c179 => ?_) (fun c179 => ?_)
        · refine r_iload_n rfl dX12_fewest_135 rfl ?_
          exact J177 _
        · refine r_iload rfl dX12_fewest_130 rfl ?_
          refine r_goto (pc' := 136) rfl dX12_fewest_132 ?_
          exact J177 _
      · refine r_iload rfl dX12_fewest_50 rfl ?_
        refine cl_X12_177 rfl rfl dX12_fewest_52 (Nat.le_of_ble_eq_true rfl) (s_X12_ones hS) ?_
        rintro _ h180 _ ⟨rfl, e181, x182, rfl⟩
        replace e181 := e181.symm
        subst e181
        refine r_iload_n rfl dX12_fewest_55 rfl ?_
        refine cl_X12_177 rfl rfl dX12_fewest_56 (Nat.le_of_ble_eq_true rfl) (s_X12_ones hS) ?_
        rintro _ h183 _ ⟨rfl, e184, x185, rfl⟩
        replace e184 := e184.symm
        subst e184
        refine r_icmp_ge (tgt := 137) rfl rfl dX12_fewest_59 (fun c186 => ?_) (fun c186 => ?_)
        · refine r_iinc (y := nI (k + 1)) (ls' := [some (.ref 420), some (.int (nI j58)), some (.int xf2), some (.int y3), some (.int (nI (k + 1))), u5, u6]) rfl dX12_fewest_137 rfl (nI_1 k) (Nat.le_of_ble_eq_true rfl) rfl ?_
          refine r_goto (pc' := 27) rfl dX12_fewest_140 ?_
          exact ih (k + 1) (by omega) h hS hF y3 u5 u6 hK
        · refine r_aload_n rfl dX12_fewest_62 rfl ?_
          refine r_getv 18 rfl dX12_fewest_63 (show 2 ≤ 420 ∧ 420 < 434 by decide) ((hF 420 (by decide)).trans h5) fl_X12_33 rfl ?_
          refine r_aload_n rfl dX12_fewest_66 rfl ?_
          refine r_getv 23 rfl dX12_fewest_67 (show 2 ≤ 420 ∧ 420 < 434 by decide) ((hF 420 (by decide)).trans h5) fl_X12_48 rfl ?_
          refine r_iload rfl dX12_fewest_70 rfl ?_
          refine cl_X12_139 rfl rfl dX12_fewest_72 (Nat.le_of_ble_eq_true rfl) (s_X12_spreads hS LA_427 LA_432) ?_
          rintro _ h187 _ ⟨rfl, hS188, hK189, rfl⟩
          have hF190 := KM_tr hF (KM_sb (by decide) hK189)
          refine r_iconst (v := 1) rfl dX12_fewest_75 (by decide) ?_
          refine r_istore (ls' := [some (.ref 420), some (.int (nI j58)), some (.int xf2), some (.int y3), some (.int (nI k)), some (.int 1), u6]) rfl dX12_fewest_76 (Nat.le_of_ble_eq_true rfl) rfl ?_
          refine r_iconst (v := 0) rfl dX12_fewest_78 (by decide) ?_
          refine r_istore (ls' := [some (.ref 420), some (.int (nI j58)), some (.int xf2), some (.int y3), some (.int (nI k)), some (.int 1), some (.int 0)]) rfl dX12_fewest_79 (Nat.le_of_ble_eq_true rfl) rfl ?_
          refine lp_X12_fewest_81b ((hF190 420 (by decide)).trans h5) hc hm hb_j58 (by omega) (4 - 0) 0 (by omega) h187 hS188 (KM_rf _) 1 ?_
          intro h193 hS194 hK195 kx191 w192
          have hF196 := KM_tr hF190 (KM_sb (by decide) hK195)
          refine r_iload rfl dX12_fewest_125 rfl ?_
          have J197 : ∀ v198 : Int32, EV xs L (d + 2) 0 0 M_X12_fewest 434 h193 136 [some (.ref 420), some (.int (nI j58)), some (.int xf2), some (.int y3), some (.int (nI k)), some (.int w192), some (.int kx191)] (.int v198 :: []) Q := by
            intro v198
            refine r_istore_n (ls' := [some (.ref 420), some (.int (nI j58)), some (.int xf2), some (.int v198), some (.int (nI k)), some (.int w192), some (.int kx191)]) rfl dX12_fewest_136 (Nat.le_of_ble_eq_true rfl) rfl ?_
            refine r_iinc (y := nI (k + 1)) (ls' := [some (.ref 420), some (.int (nI j58)), some (.int xf2), some (.int v198), some (.int (nI (k + 1))), some (.int w192), some (.int kx191)]) rfl dX12_fewest_137 rfl (nI_1 k) (Nat.le_of_ble_eq_true rfl) rfl ?_
            refine r_goto (pc' := 27) rfl dX12_fewest_140 ?_
            exact ih (k + 1) (by omega) h193 hS194 hF196 v198 (some (.int w192)) (some (.int kx191)) hK
          refine r_if_eq (tgt := 135) rfl rfl dX12_fewest_127 (fun c199 => ?_) (fun c199 => ?_)
          · refine r_iload_n rfl dX12_fewest_135 rfl ?_
            exact J197 _
          · refine r_iload rfl dX12_fewest_130 rfl ?_
            refine r_goto (pc' := 136) rfl dX12_fewest_132 ?_
            exact J197 _
set_option maxRecDepth 20000 in
set_option maxHeartbeats 1000000 in
theorem s_X12_fewest {xs : Nat → Int32} {L d : Nat} {h : ev_H} {th : Int32} {tr : Int64} {ty nx tk pl va fa ss wg : Int32} {c m : Nat} {x : Int32} (hS : SH h) (h5 : h 420 = c420 th tr ty nx tk pl va fa (nI c) (nI m) ss wg) (hc : c ≤ 16) (hm : m ≤ 24) : EV xs L (d + 2) 0 0 M_X12_fewest 434 h 0 [some (.ref 420), some (.int x), none, none, none, none, none] [] (fun sz' h' r => sz' = 434 ∧ SH h' ∧ KM [420, 431, 432, 433] h h' ∧ (∃ x : Int32, r = [.int x]) ∧ ∃ tr', h' 420 = c420 0 tr' ty nx tk pl va fa (nI c) (nI m) ss wg) := by
  refine r_aload_n rfl dX12_fewest_0 rfl ?_
  refine r_iconst (v := 0) rfl dX12_fewest_1 (by decide) ?_
  refine m_put 0 (fs' := [.int 0, .long tr, .ref 421, .int ty, .int nx, .int tk, .int pl, .int va, .int fa, .int (nI c), .int (nI m), .int ss, .int wg, .ref 422, .ref 423, .ref 424, .ref 425, .ref 426, .ref 427, .ref 428, .ref 429, .ref 430, .ref 431, .ref 432, .ref 433]) rfl dX12_fewest_2 hS (KM_rf (Mod := [420, 431, 432, 433]) h) (by decide) h5 (fp_X12_57 rfl _) (Nat.le_of_ble_eq_true rfl) rfl (fun h51 hS52 hF53 f54 => ?_)
  refine r_iload_n rfl dX12_fewest_5 rfl ?_
  refine r_iconst (v := 0) rfl dX12_fewest_6 (by decide) ?_
  refine r_iconst (v := 1) rfl dX12_fewest_7 (by decide) ?_
  refine cl_X12_60 rfl rfl dX12_fewest_8 (Nat.le_of_ble_eq_true rfl) s_X12_in ?_
  rintro _ h55 _ ⟨rfl, e56, rfl⟩
  replace e56 := e56.symm
  subst e56
  refine r_if_ne (tgt := 16) rfl rfl dX12_fewest_11 (fun c57 => ?_) (fun c57 => ?_)
  · obtain ⟨j58, q59, q60, e61⟩ := inR_nat (a := 0) (b := 1) (by omega) c57
    subst e61
    refine r_aload_n rfl dX12_fewest_16 rfl ?_
    refine cl_X12_133 rfl rfl dX12_fewest_17 (show 2 ≤ 420 ∧ 420 < 434 by decide).1 (show 2 ≤ 420 ∧ 420 < 434 by decide).2 f54 (Nat.le_of_ble_eq_true rfl) (s_X12_shared hS52 f54 hc hm) ?_
    rintro _ h62 _ ⟨rfl, e63, x64, rfl⟩
    replace e63 := e63.symm
    subst e63
    refine r_istore_n (ls' := [some (.ref 420), some (.int (nI j58)), some (.int x64), none, none, none, none]) rfl dX12_fewest_20 (Nat.le_of_ble_eq_true rfl) rfl ?_
    refine r_bipush (v := (-9)) rfl dX12_fewest_21 (by decide) ?_
    refine r_istore_n (ls' := [some (.ref 420), some (.int (nI j58)), some (.int x64), some (.int (-9)), none, none, none]) rfl dX12_fewest_23 (Nat.le_of_ble_eq_true rfl) rfl ?_
    refine r_iconst (v := 0) rfl dX12_fewest_24 (by decide) ?_
    refine r_istore (ls' := [some (.ref 420), some (.int (nI j58)), some (.int x64), some (.int (-9)), some (.int 0), none, none]) rfl dX12_fewest_25 (Nat.le_of_ble_eq_true rfl) rfl ?_
    refine lp_X12_fewest_27 f54 hc hm (by omega) (256 - 0) 0 (by omega) h51 hS52 (KM_rf _) (-9) none none ?_
    intro h69 hS70 hK71 kx65 w66 w67 w68
    have hF72 := KM_tr hF53 (KM_sb (by decide) hK71)
    have f73 : h69 420 = c420 0 tr ty nx tk pl va fa (nI c) (nI m) ss wg := (hK71 420 (by decide)).trans f54
    refine r_iload_n rfl dX12_fewest_143 rfl ?_
    refine r_bipush (v := (-9)) rfl dX12_fewest_144 (by decide) ?_
    refine r_icmp_eq (tgt := 154) rfl rfl dX12_fewest_146 (fun c74 => ?_) (fun c74 => ?_)
    · refine r_iload_n rfl dX12_fewest_154 rfl ?_
      refine r_goto (pc' := 162) rfl dX12_fewest_155 ?_
      exact r_ret dX12_fewest_162 (rt_i rfl) ⟨rfl, hS70, hF72, ⟨_, rfl⟩, ⟨_, f73⟩⟩
    · refine r_iload_n rfl dX12_fewest_149 rfl ?_
      refine r_iconst (v := 1) rfl dX12_fewest_150 (by decide) ?_
      refine r_icmp_ne (tgt := 158) rfl rfl dX12_fewest_151 (fun c75 => ?_) (fun c75 => ?_)
      · have q76 : ¬ j58 = 1 := (not_congr (nI_eq (a := j58) (b := 1)  (by omega) (by omega))).mp c75
        refine r_iload_n rfl dX12_fewest_158 rfl ?_
        refine cl_X12_177 rfl rfl dX12_fewest_159 (Nat.le_of_ble_eq_true rfl) (s_X12_ones hS70) ?_
        rintro _ h77 _ ⟨rfl, e78, x79, rfl⟩
        replace e78 := e78.symm
        subst e78
        exact r_ret dX12_fewest_162 (rt_i rfl) ⟨rfl, hS70, hF72, ⟨_, rfl⟩, ⟨_, f73⟩⟩
      · have q80 : j58 = 1 := (nI_eq (a := j58) (b := 1) (by omega) (by omega)).mp c75
        refine r_iload_n rfl dX12_fewest_154 rfl ?_
        refine r_goto (pc' := 162) rfl dX12_fewest_155 ?_
        exact r_ret dX12_fewest_162 (rt_i rfl) ⟨rfl, hS70, hF72, ⟨_, rfl⟩, ⟨_, f73⟩⟩
  · refine r_iconst (v := (-1)) rfl dX12_fewest_14 (by decide) ?_
    exact r_ret dX12_fewest_15 (rt_i rfl) ⟨rfl, hS52, hF53, ⟨_, rfl⟩, ⟨_, f54⟩⟩
set_option maxRecDepth 20000 in
set_option maxHeartbeats 1000000 in
theorem lp_X12_used_26 {xs : Nat → Int32} {L d : Nat} {Q : ev_Q} {th : Int32} {tr : Int64} {ty nx tk pl va fa ss wg : Int32} {c m : Nat} {j58 : Nat} {h0 : ev_H} (h5 : h0 420 = c420 th tr ty nx tk pl va fa (nI c) (nI m) ss wg) (hc : c ≤ 16) (hm : m ≤ 24) (hb_j58 : j58 < c + m) : ∀ (n : Nat) (kx : Int32), kx = nI (0 + n) - 1 → 0 + n ≤ 40 → ∀ (h : ev_H) (hS : SH h) (hF : KM [431, 432, 433] h0 h) (y2 : Int64) (hK : ∀ (h : ev_H) (hS : SH h) (hF : KM [431, 432, 433] h0 h) (kx : Int32) (y2 : Int64), EV xs L (d + 1) 0 0 M_X12_used 434 h 88 [some (.ref 420), some (.int (nI j58)), some (.long y2), none, some (.int kx)] [] Q), EV xs L (d + 1) 0 0 M_X12_used 434 h 26 [some (.ref 420), some (.int (nI j58)), some (.long y2), none, some (.int kx)] [] Q := by
  intro n
  induction n with
  | zero =>
    intro kx hk hub h hS hF y2 hK
    replace hk : kx = nI 0 - 1 := hk
    refine r_iload rfl dX12_used_26 rfl ?_
    refine r_aload_n rfl dX12_used_28 rfl ?_
    refine r_getv 9 rfl dX12_used_29 (show 2 ≤ 420 ∧ 420 < 434 by decide) ((hF 420 (by decide)).trans h5) fl_X12_112 rfl ?_
    refine r_icmp_lt (tgt := 88) rfl rfl dX12_used_32 (fun _ => ?_) (fun zc => absurd (show kx < (nI c) from by rw [hk]; exact nI_m1 (by omega)) zc)
    exact hK h hS hF kx y2
  | succ n ih =>
    intro kx hk hub h hS hF y2 hK
    obtain rfl : kx = nI (0 + n) := by rw [hk, show 0 + (n + 1) = 0 + n + 1 by omega]; exact nI_pred (0 + n)
    refine r_iload rfl dX12_used_26 rfl ?_
    refine r_aload_n rfl dX12_used_28 rfl ?_
    refine r_getv 9 rfl dX12_used_29 (show 2 ≤ 420 ∧ 420 < 434 by decide) ((hF 420 (by decide)).trans h5) fl_X12_112 rfl ?_
    refine r_icmp_lt (tgt := 88) rfl rfl dX12_used_32 (fun c163 => ?_) (fun c163 => ?_)
    · have q164 : (0 + n) < c := (nI_ltI (a := 0 + n) (b := c) (by omega) (by omega)).mp c163
      exact hK h hS hF (nI (0 + n)) y2
    · have q165 : ¬ (0 + n) < c := fun z => c163 ((nI_ltI (a := 0 + n) (b := c) (by omega) (by omega)).mpr z)
      refine r_lload_n rfl dX12_used_35 rfl ?_
      refine r_lload_n rfl dX12_used_36 rfl ?_
      refine r_iload rfl dX12_used_37 rfl ?_
      refine r_lshr rfl dX12_used_39 ?_
      refine r_lconst (v := 1) rfl dX12_used_40 (by decide) ?_
      refine r_land rfl dX12_used_41 ?_
      refine r_lconst (v := 1) rfl dX12_used_42 (by decide) ?_
      refine r_lcmp rfl dX12_used_43 ?_
      have J166 : ∀ v167 : Int64, EV xs L (d + 1) 0 0 M_X12_used 434 h 80 [some (.ref 420), some (.int (nI j58)), some (.long y2), none, some (.int (nI (0 + n)))] (.long v167 :: .long y2 :: []) Q := by
        intro v167
        refine r_lor rfl dX12_used_80 ?_
        refine r_topl (fun x168 e169 => ?_)
        refine r_lstore_n (ls' := [some (.ref 420), some (.int (nI j58)), some (.long x168), none, some (.int (nI (0 + n)))]) rfl dX12_used_81 (Nat.le_of_ble_eq_true rfl) rfl ?_
        obtain ⟨x170, e171⟩ : ∃ z : Int32, z = (nI (0 + n)) + Int32.ofInt (-1) := ⟨_, rfl⟩
        refine r_iinc (y := x170) (ls' := [some (.ref 420), some (.int (nI j58)), some (.long x168), none, some (.int x170)]) rfl dX12_used_82 rfl e171.symm (Nat.le_of_ble_eq_true rfl) rfl ?_
        refine r_goto (pc' := 26) rfl dX12_used_85 ?_
        exact ih x170 (by rw [e171, Int32.sub_eq_add_neg]; rfl) (by omega) h hS hF x168 hK
      refine r_if_ne (tgt := 79) rfl rfl dX12_used_44 (fun c172 => ?_) (fun c172 => ?_)
      · refine r_lconst (v := 0) rfl dX12_used_79 (by decide) ?_
        exact J166 _
      · refine r_lconst (v := 1) rfl dX12_used_47 (by decide) ?_
        refine r_aload_n rfl dX12_used_48 rfl ?_
        refine r_getv 13 rfl dX12_used_49 (show 2 ≤ 420 ∧ 420 < 434 by decide) ((hF 420 (by decide)).trans h5) fl_X12_17 rfl ?_
        refine r_bipush (v := 6) rfl dX12_used_52 (by decide) ?_
        refine r_iload rfl dX12_used_54 rfl ?_
        refine r_imul rfl dX12_used_56 ?_
        refine r_eqi (y := nI (6 * (0 + n))) (show 6 * (nI (0 + n)) = nI (6 * (0 + n)) from pk_mul 6 (0 + n)) ?_
        refine r_iconst (v := 3) rfl dX12_used_57 (by decide) ?_
        refine r_iadd rfl dX12_used_58 ?_
        refine r_eqi (y := nI ((6 * (0 + n)) + 3)) (show (nI (6 * (0 + n))) + 3 = nI ((6 * (0 + n)) + 3) from nI_add (6 * (0 + n)) 3) ?_
        obtain ⟨g173, f174⟩ := hS.li LI_422
        refine r_ialdv (jn := (6 * (0 + n)) + 3) (v := g173 ((6 * (0 + n)) + 3)) rfl dX12_used_59 (show 2 ≤ 422 ∧ 422 < 434 by decide) f174 (vp_in_nI (n := (6 * (0 + n)) + 3) (by omega) (by omega)) (nI_clamp (n := (6 * (0 + n)) + 3) (by omega)) rfl ?_
        refine r_lshl rfl dX12_used_60 ?_
        refine r_lconst (v := 1) rfl dX12_used_61 (by decide) ?_
        refine r_aload_n rfl dX12_used_62 rfl ?_
        refine r_getv 13 rfl dX12_used_63 (show 2 ≤ 420 ∧ 420 < 434 by decide) ((hF 420 (by decide)).trans h5) fl_X12_17 rfl ?_
        refine r_bipush (v := 6) rfl dX12_used_66 (by decide) ?_
        refine r_iload rfl dX12_used_68 rfl ?_
        refine r_imul rfl dX12_used_70 ?_
        refine r_eqi (y := nI (6 * (0 + n))) (show 6 * (nI (0 + n)) = nI (6 * (0 + n)) from pk_mul 6 (0 + n)) ?_
        refine r_iconst (v := 4) rfl dX12_used_71 (by decide) ?_
        refine r_iadd rfl dX12_used_72 ?_
        refine r_eqi (y := nI ((6 * (0 + n)) + 4)) (show (nI (6 * (0 + n))) + 4 = nI ((6 * (0 + n)) + 4) from nI_add (6 * (0 + n)) 4) ?_
        obtain ⟨g175, f176⟩ := hS.li LI_422
        refine r_ialdv (jn := (6 * (0 + n)) + 4) (v := g175 ((6 * (0 + n)) + 4)) rfl dX12_used_73 (show 2 ≤ 422 ∧ 422 < 434 by decide) f176 (vp_in_nI (n := (6 * (0 + n)) + 4) (by omega) (by omega)) (nI_clamp (n := (6 * (0 + n)) + 4) (by omega)) rfl ?_
        refine r_lshl rfl dX12_used_74 ?_
        refine r_lor rfl dX12_used_75 ?_
        refine r_goto (pc' := 80) rfl dX12_used_76 ?_
        exact J166 _
set_option maxRecDepth 20000 in
set_option maxHeartbeats 1000000 in
theorem s_X12_used {xs : Nat → Int32} {L d : Nat} {h : ev_H} {th : Int32} {tr : Int64} {ty nx tk pl va fa ss wg : Int32} {c m : Nat} (hS : SH h) (h5 : h 420 = c420 th tr ty nx tk pl va fa (nI c) (nI m) ss wg) (hc : c ≤ 16) (hm : m ≤ 24) : EV xs L (d + 1) 0 0 M_X12_used 434 h 0 [some (.ref 420), none, none, none, none] [] (fun sz' h' r => sz' = 434 ∧ SH h' ∧ KM [420, 431, 432, 433] h h' ∧ (∃ x : Int32, r = [.int x]) ∧ ∃ tr', h' 420 = c420 0 tr' ty nx tk pl va fa (nI c) (nI m) ss wg) := by
  refine r_aload_n rfl dX12_used_0 rfl ?_
  refine r_iconst (v := 0) rfl dX12_used_1 (by decide) ?_
  refine m_put 0 (fs' := [.int 0, .long tr, .ref 421, .int ty, .int nx, .int tk, .int pl, .int va, .int fa, .int (nI c), .int (nI m), .int ss, .int wg, .ref 422, .ref 423, .ref 424, .ref 425, .ref 426, .ref 427, .ref 428, .ref 429, .ref 430, .ref 431, .ref 432, .ref 433]) rfl dX12_used_2 hS (KM_rf (Mod := [420, 431, 432, 433]) h) (by decide) h5 (fp_X12_57 rfl _) (Nat.le_of_ble_eq_true rfl) rfl (fun h51 hS52 hF53 f54 => ?_)
  refine r_aload_n rfl dX12_used_5 rfl ?_
  refine cl_X12_154 rfl rfl dX12_used_6 (show 2 ≤ 420 ∧ 420 < 434 by decide).1 (show 2 ≤ 420 ∧ 420 < 434 by decide).2 f54 (Nat.le_of_ble_eq_true rfl) (s_X12_ending hS52 f54 hc hm) ?_
  rintro _ h55 _ ⟨rfl, e56, H57⟩
  replace e56 := e56.symm
  subst e56
  rcases H57 with rfl | ⟨j58, q59, rfl⟩
  · refine r_istore_n (ls' := [some (.ref 420), some (.int (-9)), none, none, none]) rfl dX12_used_9 (Nat.le_of_ble_eq_true rfl) rfl ?_
    refine r_iload_n rfl dX12_used_10 rfl ?_
    refine r_bipush (v := (-9)) rfl dX12_used_11 (by decide) ?_
    refine r_icmp_ne (tgt := 19) rfl rfl dX12_used_13 (fun zc => absurd zc (by decide)) (fun _ => ?_)
    refine r_bipush (v := (-2)) rfl dX12_used_16 (by decide) ?_
    exact r_ret dX12_used_18 (rt_i rfl) ⟨rfl, hS52, hF53, ⟨_, rfl⟩, ⟨_, f54⟩⟩
  · refine r_istore_n (ls' := [some (.ref 420), some (.int (nI j58)), none, none, none]) rfl dX12_used_9 (Nat.le_of_ble_eq_true rfl) rfl ?_
    refine r_iload_n rfl dX12_used_10 rfl ?_
    refine r_bipush (v := (-9)) rfl dX12_used_11 (by decide) ?_
    refine r_icmp_ne (tgt := 19) rfl rfl dX12_used_13 (fun c60 => ?_) (fun c60 => ?_)
    · refine r_lconst (v := 1) rfl dX12_used_19 (by decide) ?_
      refine r_iload_n rfl dX12_used_20 rfl ?_
      refine r_lshl rfl dX12_used_21 ?_
      refine r_topl (fun x61 e62 => ?_)
      refine r_lstore_n (ls' := [some (.ref 420), some (.int (nI j58)), some (.long x61), none, none]) rfl dX12_used_22 (Nat.le_of_ble_eq_true rfl) rfl ?_
      refine r_iload_n rfl dX12_used_23 rfl ?_
      refine r_istore (ls' := [some (.ref 420), some (.int (nI j58)), some (.long x61), none, some (.int (nI j58))]) rfl dX12_used_24 (Nat.le_of_ble_eq_true rfl) rfl ?_
      refine lp_X12_used_26 f54 hc hm (by omega) (j58 + 1 - 0) (nI j58) (by rw [show 0 + (j58 + 1 - 0) = j58 + 1 by omega]; exact (nI_pred j58).symm) (by omega) h51 hS52 (KM_rf _) x61 ?_
      intro h65 hS66 hK67 kx63 w64
      have hF68 := KM_tr hF53 (KM_sb (by decide) hK67)
      have f69 : h65 420 = c420 0 tr ty nx tk pl va fa (nI c) (nI m) ss wg := (hK67 420 (by decide)).trans f54
      refine r_lload_n rfl dX12_used_88 rfl ?_
      refine r_lconst (v := 1) rfl dX12_used_89 (by decide) ?_
      refine r_aload_n rfl dX12_used_90 rfl ?_
      refine r_getv 9 rfl dX12_used_91 (show 2 ≤ 420 ∧ 420 < 434 by decide) f69 fl_X12_112 rfl ?_
      refine r_lshl rfl dX12_used_94 ?_
      refine r_lconst (v := 1) rfl dX12_used_95 (by decide) ?_
      refine r_lsub rfl dX12_used_96 ?_
      refine r_land rfl dX12_used_97 ?_
      refine r_l2i rfl dX12_used_98 ?_
      exact r_ret dX12_used_99 (rt_i rfl) ⟨rfl, hS66, hF68, ⟨_, rfl⟩, ⟨_, f69⟩⟩
    · refine r_bipush (v := (-2)) rfl dX12_used_16 (by decide) ?_
      exact r_ret dX12_used_18 (rt_i rfl) ⟨rfl, hS52, hF53, ⟨_, rfl⟩, ⟨_, f54⟩⟩
set_option maxRecDepth 20000 in
set_option maxHeartbeats 1000000 in
theorem lp_X12_needed_36 {xs : Nat → Int32} {L d : Nat} {Q : ev_Q} {th : Int32} {tr : Int64} {ty nx tk pl va fa ss wg : Int32} {c m : Nat} {j58 : Nat} {h0 : ev_H} (h5 : h0 420 = c420 th tr ty nx tk pl va fa (nI c) (nI m) ss wg) (hc : c ≤ 16) (hm : m ≤ 24) (hsh : sh1 c ≤ 65536) (hb_j58 : j58 < 1 + 1) : ∀ (n k : Nat), k + n = (sh1 c) → ∀ (h : ev_H) (hS : SH h) (hF : KM [431, 432, 433] h0 h) (y2 : Int32) (hK : ∀ (h : ev_H) (hS : SH h) (hF : KM [431, 432, 433] h0 h) (kx : Int32) (y2 : Int32), EV xs L (d + 1) 0 0 M_X12_needed 434 h 79 [some (.ref 420), some (.int (nI j58)), some (.int y2), some (.int kx)] [] Q), EV xs L (d + 1) 0 0 M_X12_needed 434 h 36 [some (.ref 420), some (.int (nI j58)), some (.int y2), some (.int (nI k))] [] Q := by
  intro n
  induction n with
  | zero =>
    intro k hk h hS hF y2 hK
    refine r_iload_n rfl dX12_needed_36 rfl ?_
    refine r_iconst (v := 1) rfl dX12_needed_37 (by decide) ?_
    refine r_aload_n rfl dX12_needed_38 rfl ?_
    refine r_getv 9 rfl dX12_needed_39 (show 2 ≤ 420 ∧ 420 < 434 by decide) ((hF 420 (by decide)).trans h5) fl_X12_112 rfl ?_
    refine r_ishl rfl dX12_needed_42 ?_
    refine r_eqi (y := nI (sh1 c)) (show 1 <<< ((nI c) &&& 31) = nI (sh1 c) from sh1_e (c := c) (by omega)) ?_
    refine r_icmp_ge (tgt := 79) rfl rfl dX12_needed_43 (fun _ => ?_) (fun zc => absurd (show (nI (sh1 c)) ≤ nI k from nI_le (a := sh1 c) (b := k) (by omega) (by omega)) zc)
    exact hK h hS hF (nI k) y2
  | succ n ih =>
    intro k hk h hS hF y2 hK
    refine r_iload_n rfl dX12_needed_36 rfl ?_
    refine r_iconst (v := 1) rfl dX12_needed_37 (by decide) ?_
    refine r_aload_n rfl dX12_needed_38 rfl ?_
    refine r_getv 9 rfl dX12_needed_39 (show 2 ≤ 420 ∧ 420 < 434 by decide) ((hF 420 (by decide)).trans h5) fl_X12_112 rfl ?_
    refine r_ishl rfl dX12_needed_42 ?_
    refine r_eqi (y := nI (sh1 c)) (show 1 <<< ((nI c) &&& 31) = nI (sh1 c) from sh1_e (c := c) (by omega)) ?_
    refine r_icmp_ge (tgt := 79) rfl rfl dX12_needed_43 (fun zc => absurd zc (show ¬ (nI (sh1 c)) ≤ nI k from nI_ge (a := k) (b := sh1 c) (by omega) (by omega))) (fun _ => ?_)
    refine r_iload_n rfl dX12_needed_46 rfl ?_
    refine r_bipush (v := (-9)) rfl dX12_needed_47 (by decide) ?_
    refine r_icmp_eq (tgt := 63) rfl rfl dX12_needed_49 (fun c167 => ?_) (fun c167 => ?_)
    · refine r_aload_n rfl dX12_needed_63 rfl ?_
      refine r_iload_n rfl dX12_needed_64 rfl ?_
      refine cl_X12_180 rfl rfl dX12_needed_65 (show 2 ≤ 420 ∧ 420 < 434 by decide).1 (show 2 ≤ 420 ∧ 420 < 434 by decide).2 ((hF 420 (by decide)).trans h5) (Nat.le_of_ble_eq_true rfl) (s_X12_clash hS ((hF 420 (by decide)).trans h5) hc hm) ?_
      rintro _ h168 _ ⟨rfl, e169, x170, z171, rfl⟩
      replace e169 := e169.symm
      subst e169
      refine r_if_eq (tgt := 73) rfl rfl dX12_needed_68 (fun c172 => ?_) (fun c172 => ?_)
      · refine r_iinc (y := nI (k + 1)) (ls' := [some (.ref 420), some (.int (nI j58)), some (.int y2), some (.int (nI (k + 1)))]) rfl dX12_needed_73 rfl (nI_1 k) (Nat.le_of_ble_eq_true rfl) rfl ?_
        refine r_goto (pc' := 36) rfl dX12_needed_76 ?_
        exact ih (k + 1) (by omega) h hS hF y2 hK
      · refine r_iload_n rfl dX12_needed_71 rfl ?_
        refine r_istore_n (ls' := [some (.ref 420), some (.int (nI j58)), some (.int (nI k)), some (.int (nI k))]) rfl dX12_needed_72 (Nat.le_of_ble_eq_true rfl) rfl ?_
        refine r_iinc (y := nI (k + 1)) (ls' := [some (.ref 420), some (.int (nI j58)), some (.int (nI k)), some (.int (nI (k + 1)))]) rfl dX12_needed_73 rfl (nI_1 k) (Nat.le_of_ble_eq_true rfl) rfl ?_
        refine r_goto (pc' := 36) rfl dX12_needed_76 ?_
        exact ih (k + 1) (by omega) h hS hF (nI k) hK
    · refine r_iload_n rfl dX12_needed_52 rfl ?_
      refine cl_X12_177 rfl rfl dX12_needed_53 (Nat.le_of_ble_eq_true rfl) (s_X12_ones hS) ?_
      rintro _ h173 _ ⟨rfl, e174, x175, rfl⟩
      replace e174 := e174.symm
      subst e174
      refine r_iload_n rfl dX12_needed_56 rfl ?_
      refine cl_X12_177 rfl rfl dX12_needed_57 (Nat.le_of_ble_eq_true rfl) (s_X12_ones hS) ?_
      rintro _ h176 _ ⟨rfl, e177, x178, rfl⟩
      replace e177 := e177.symm
      subst e177
      refine r_icmp_ge (tgt := 73) rfl rfl dX12_needed_60 (fun c179 => ?_) (fun c179 => ?_)
      · refine r_iinc (y := nI (k + 1)) (ls' := [some (.ref 420), some (.int (nI j58)), some (.int y2), some (.int (nI (k + 1)))]) rfl dX12_needed_73 rfl (nI_1 k) (Nat.le_of_ble_eq_true rfl) rfl ?_
        refine r_goto (pc' := 36) rfl dX12_needed_76 ?_
        exact ih (k + 1) (by omega) h hS hF y2 hK
      · refine r_aload_n rfl dX12_needed_63 rfl ?_
        refine r_iload_n rfl dX12_needed_64 rfl ?_
        refine cl_X12_180 rfl rfl dX12_needed_65 (show 2 ≤ 420 ∧ 420 < 434 by decide).1 (show 2 ≤ 420 ∧ 420 < 434 by decide).2 ((hF 420 (by decide)).trans h5) (Nat.le_of_ble_eq_true rfl) (s_X12_clash hS ((hF 420 (by decide)).trans h5) hc hm) ?_
        rintro _ h180 _ ⟨rfl, e181, x182, z183, rfl⟩
        replace e181 := e181.symm
        subst e181
        refine r_if_eq (tgt := 73) rfl rfl dX12_needed_68 (fun c184 => ?_) (fun c184 => ?_)
        · refine r_iinc (y := nI (k + 1)) (ls' := [some (.ref 420), some (.int (nI j58)), some (.int y2), some (.int (nI (k + 1)))]) rfl dX12_needed_73 rfl (nI_1 k) (Nat.le_of_ble_eq_true rfl) rfl ?_
          refine r_goto (pc' := 36) rfl dX12_needed_76 ?_
          exact ih (k + 1) (by omega) h hS hF y2 hK
        · refine r_iload_n rfl dX12_needed_71 rfl ?_
          refine r_istore_n (ls' := [some (.ref 420), some (.int (nI j58)), some (.int (nI k)), some (.int (nI k))]) rfl dX12_needed_72 (Nat.le_of_ble_eq_true rfl) rfl ?_
          refine r_iinc (y := nI (k + 1)) (ls' := [some (.ref 420), some (.int (nI j58)), some (.int (nI k)), some (.int (nI (k + 1)))]) rfl dX12_needed_73 rfl (nI_1 k) (Nat.le_of_ble_eq_true rfl) rfl ?_
          refine r_goto (pc' := 36) rfl dX12_needed_76 ?_
          exact ih (k + 1) (by omega) h hS hF (nI k) hK
set_option maxRecDepth 20000 in
set_option maxHeartbeats 1000000 in
theorem s_X12_needed {xs : Nat → Int32} {L d : Nat} {h : ev_H} {th : Int32} {tr : Int64} {ty nx tk pl va fa ss wg : Int32} {c m : Nat} {x : Int32} (hS : SH h) (h5 : h 420 = c420 th tr ty nx tk pl va fa (nI c) (nI m) ss wg) (hc : c ≤ 16) (hm : m ≤ 24) (hsh : sh1 c ≤ 65536) : EV xs L (d + 1) 0 0 M_X12_needed 434 h 0 [some (.ref 420), some (.int x), none, none] [] (fun sz' h' r => sz' = 434 ∧ SH h' ∧ KM [420, 431, 432, 433] h h' ∧ (∃ x : Int32, r = [.int x]) ∧ ∃ tr', h' 420 = c420 0 tr' ty nx tk pl va fa (nI c) (nI m) ss wg) := by
  refine r_aload_n rfl dX12_needed_0 rfl ?_
  refine r_iconst (v := 0) rfl dX12_needed_1 (by decide) ?_
  refine m_put 0 (fs' := [.int 0, .long tr, .ref 421, .int ty, .int nx, .int tk, .int pl, .int va, .int fa, .int (nI c), .int (nI m), .int ss, .int wg, .ref 422, .ref 423, .ref 424, .ref 425, .ref 426, .ref 427, .ref 428, .ref 429, .ref 430, .ref 431, .ref 432, .ref 433]) rfl dX12_needed_2 hS (KM_rf (Mod := [420, 431, 432, 433]) h) (by decide) h5 (fp_X12_57 rfl _) (Nat.le_of_ble_eq_true rfl) rfl (fun h51 hS52 hF53 f54 => ?_)
  refine r_iload_n rfl dX12_needed_5 rfl ?_
  refine r_iconst (v := 0) rfl dX12_needed_6 (by decide) ?_
  refine r_iconst (v := 1) rfl dX12_needed_7 (by decide) ?_
  refine cl_X12_60 rfl rfl dX12_needed_8 (Nat.le_of_ble_eq_true rfl) s_X12_in ?_
  rintro _ h55 _ ⟨rfl, e56, rfl⟩
  replace e56 := e56.symm
  subst e56
  refine r_if_ne (tgt := 16) rfl rfl dX12_needed_11 (fun c57 => ?_) (fun c57 => ?_)
  · obtain ⟨j58, q59, q60, e61⟩ := inR_nat (a := 0) (b := 1) (by omega) c57
    subst e61
    refine r_bipush (v := (-9)) rfl dX12_needed_16 (by decide) ?_
    refine r_istore_n (ls' := [some (.ref 420), some (.int (nI j58)), some (.int (-9)), none]) rfl dX12_needed_18 (Nat.le_of_ble_eq_true rfl) rfl ?_
    refine r_aload_n rfl dX12_needed_19 rfl ?_
    refine r_iconst (v := 1) rfl dX12_needed_20 (by decide) ?_
    refine r_aload_n rfl dX12_needed_21 rfl ?_
    refine r_getv 9 rfl dX12_needed_22 (show 2 ≤ 420 ∧ 420 < 434 by decide) f54 fl_X12_112 rfl ?_
    refine r_ishl rfl dX12_needed_25 ?_
    refine r_eqi (y := nI (sh1 c)) (show 1 <<< ((nI c) &&& 31) = nI (sh1 c) from sh1_e (c := c) (by omega)) ?_
    refine r_iconst (v := 1) rfl dX12_needed_26 (by decide) ?_
    refine r_isub rfl dX12_needed_27 ?_
    refine cl_X12_180 rfl rfl dX12_needed_28 (show 2 ≤ 420 ∧ 420 < 434 by decide).1 (show 2 ≤ 420 ∧ 420 < 434 by decide).2 f54 (Nat.le_of_ble_eq_true rfl) (s_X12_clash hS52 f54 hc hm) ?_
    rintro _ h62 _ ⟨rfl, e63, x64, z65, rfl⟩
    replace e63 := e63.symm
    subst e63
    refine r_if_eq (tgt := 79) rfl rfl dX12_needed_31 (fun c66 => ?_) (fun c66 => ?_)
    · refine r_iload_n rfl dX12_needed_79 rfl ?_
      refine r_bipush (v := (-9)) rfl dX12_needed_80 (by decide) ?_
      refine r_icmp_eq (tgt := 90) rfl rfl dX12_needed_82 (fun _ => ?_) (fun zc => absurd zc (by decide))
      refine r_iload_n rfl dX12_needed_90 rfl ?_
      refine r_goto (pc' := 98) rfl dX12_needed_91 ?_
      exact r_ret dX12_needed_98 (rt_i rfl) ⟨rfl, hS52, hF53, ⟨_, rfl⟩, ⟨_, f54⟩⟩
    · refine r_iconst (v := 0) rfl dX12_needed_34 (by decide) ?_
      refine r_istore_n (ls' := [some (.ref 420), some (.int (nI j58)), some (.int (-9)), some (.int 0)]) rfl dX12_needed_35 (Nat.le_of_ble_eq_true rfl) rfl ?_
      refine lp_X12_needed_36 f54 hc hm hsh (by omega) (sh1 c - 0) 0 (by omega) h51 hS52 (KM_rf _) (-9) ?_
      intro h69 hS70 hK71 kx67 w68
      have hF72 := KM_tr hF53 (KM_sb (by decide) hK71)
      have f73 : h69 420 = c420 0 tr ty nx tk pl va fa (nI c) (nI m) ss wg := (hK71 420 (by decide)).trans f54
      refine r_iload_n rfl dX12_needed_79 rfl ?_
      refine r_bipush (v := (-9)) rfl dX12_needed_80 (by decide) ?_
      refine r_icmp_eq (tgt := 90) rfl rfl dX12_needed_82 (fun c74 => ?_) (fun c74 => ?_)
      · refine r_iload_n rfl dX12_needed_90 rfl ?_
        refine r_goto (pc' := 98) rfl dX12_needed_91 ?_
        exact r_ret dX12_needed_98 (rt_i rfl) ⟨rfl, hS70, hF72, ⟨_, rfl⟩, ⟨_, f73⟩⟩
      · refine r_iload_n rfl dX12_needed_85 rfl ?_
        refine r_iconst (v := 1) rfl dX12_needed_86 (by decide) ?_
        refine r_icmp_ne (tgt := 94) rfl rfl dX12_needed_87 (fun c75 => ?_) (fun c75 => ?_)
        · have q76 : ¬ j58 = 1 := (not_congr (nI_eq (a := j58) (b := 1)  (by omega) (by omega))).mp c75
          refine r_iload_n rfl dX12_needed_94 rfl ?_
          refine cl_X12_177 rfl rfl dX12_needed_95 (Nat.le_of_ble_eq_true rfl) (s_X12_ones hS70) ?_
          rintro _ h77 _ ⟨rfl, e78, x79, rfl⟩
          replace e78 := e78.symm
          subst e78
          exact r_ret dX12_needed_98 (rt_i rfl) ⟨rfl, hS70, hF72, ⟨_, rfl⟩, ⟨_, f73⟩⟩
        · have q80 : j58 = 1 := (nI_eq (a := j58) (b := 1) (by omega) (by omega)).mp c75
          refine r_iload_n rfl dX12_needed_90 rfl ?_
          refine r_goto (pc' := 98) rfl dX12_needed_91 ?_
          exact r_ret dX12_needed_98 (rt_i rfl) ⟨rfl, hS70, hF72, ⟨_, rfl⟩, ⟨_, f73⟩⟩
  · refine r_iconst (v := (-1)) rfl dX12_needed_14 (by decide) ?_
    exact r_ret dX12_needed_15 (rt_i rfl) ⟨rfl, hS52, hF53, ⟨_, rfl⟩, ⟨_, f54⟩⟩
