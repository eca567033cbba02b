theorem dX12_holding_0 : decode cX12_holding 0 = .ok (.iconst 0, 1) := by decide +kernel
theorem dX12_holding_1 : decode cX12_holding 1 = .ok (.istore_n 2, 1) := by decide +kernel
theorem dX12_holding_2 : decode cX12_holding 2 = .ok (.iload_n 2, 1) := by decide +kernel
theorem dX12_holding_3 : decode cX12_holding 3 = .ok (.iconst 4, 1) := by decide +kernel
theorem dX12_holding_4 : decode cX12_holding 4 = .ok (.if_icmp .ge 20, 3) := by decide +kernel
theorem dX12_holding_7 : decode cX12_holding 7 = .ok (.aload_n 0, 1) := by decide +kernel
theorem dX12_holding_8 : decode cX12_holding 8 = .ok (.getfield 26, 3) := by decide +kernel
theorem dX12_holding_11 : decode cX12_holding 11 = .ok (.iconst 4, 1) := by decide +kernel
theorem dX12_holding_12 : decode cX12_holding 12 = .ok (.iload_n 1, 1) := by decide +kernel
theorem dX12_holding_13 : decode cX12_holding 13 = .ok (.imul, 1) := by decide +kernel
theorem dX12_holding_14 : decode cX12_holding 14 = .ok (.iload_n 2, 1) := by decide +kernel
theorem dX12_holding_15 : decode cX12_holding 15 = .ok (.iadd, 1) := by decide +kernel
theorem dX12_holding_16 : decode cX12_holding 16 = .ok (.lconst 0, 1) := by decide +kernel
theorem dX12_holding_17 : decode cX12_holding 17 = .ok (.lastore, 1) := by decide +kernel
theorem dX12_holding_18 : decode cX12_holding 18 = .ok (.iinc 2 1, 3) := by decide +kernel
theorem dX12_holding_21 : decode cX12_holding 21 = .ok (.goto (-19), 3) := by decide +kernel
theorem dX12_holding_24 : decode cX12_holding 24 = .ok (.iconst 0, 1) := by decide +kernel
theorem dX12_holding_25 : decode cX12_holding 25 = .ok (.istore_n 2, 1) := by decide +kernel
theorem dX12_holding_26 : decode cX12_holding 26 = .ok (.iload_n 2, 1) := by decide +kernel
theorem dX12_holding_27 : decode cX12_holding 27 = .ok (.sipush 256, 3) := by decide +kernel
theorem dX12_holding_30 : decode cX12_holding 30 = .ok (.if_icmp .ge 62, 3) := by decide +kernel
theorem dX12_holding_33 : decode cX12_holding 33 = .ok (.aload_n 0, 1) := by decide +kernel
theorem dX12_holding_34 : decode cX12_holding 34 = .ok (.getfield 26, 3) := by decide +kernel
theorem dX12_holding_37 : decode cX12_holding 37 = .ok (.iconst 4, 1) := by decide +kernel
theorem dX12_holding_38 : decode cX12_holding 38 = .ok (.iload_n 1, 1) := by decide +kernel
theorem dX12_holding_39 : decode cX12_holding 39 = .ok (.imul, 1) := by decide +kernel
theorem dX12_holding_40 : decode cX12_holding 40 = .ok (.iload_n 2, 1) := by decide +kernel
theorem dX12_holding_41 : decode cX12_holding 41 = .ok (.bipush 6, 2) := by decide +kernel
theorem dX12_holding_43 : decode cX12_holding 43 = .ok (.ishr, 1) := by decide +kernel
theorem dX12_holding_44 : decode cX12_holding 44 = .ok (.iadd, 1) := by decide +kernel
theorem dX12_holding_45 : decode cX12_holding 45 = .ok (.dup2, 1) := by decide +kernel
theorem dX12_holding_46 : decode cX12_holding 46 = .ok (.laload, 1) := by decide +kernel
theorem dX12_holding_47 : decode cX12_holding 47 = .ok (.aload_n 0, 1) := by decide +kernel
theorem dX12_holding_48 : decode cX12_holding 48 = .ok (.getfield 17, 3) := by decide +kernel
theorem dX12_holding_51 : decode cX12_holding 51 = .ok (.bipush 6, 2) := by decide +kernel
theorem dX12_holding_53 : decode cX12_holding 53 = .ok (.iload_n 1, 1) := by decide +kernel
theorem dX12_holding_54 : decode cX12_holding 54 = .ok (.imul, 1) := by decide +kernel
theorem dX12_holding_55 : decode cX12_holding 55 = .ok (.iaload, 1) := by decide +kernel
theorem dX12_holding_56 : decode cX12_holding 56 = .ok (.aload_n 0, 1) := by decide +kernel
theorem dX12_holding_57 : decode cX12_holding 57 = .ok (.getfield 17, 3) := by decide +kernel
theorem dX12_holding_60 : decode cX12_holding 60 = .ok (.bipush 6, 2) := by decide +kernel
theorem dX12_holding_62 : decode cX12_holding 62 = .ok (.iload_n 1, 1) := by decide +kernel
theorem dX12_holding_63 : decode cX12_holding 63 = .ok (.imul, 1) := by decide +kernel
theorem dX12_holding_64 : decode cX12_holding 64 = .ok (.iconst 1, 1) := by decide +kernel
theorem dX12_holding_65 : decode cX12_holding 65 = .ok (.iadd, 1) := by decide +kernel
theorem dX12_holding_66 : decode cX12_holding 66 = .ok (.iaload, 1) := by decide +kernel
theorem dX12_holding_67 : decode cX12_holding 67 = .ok (.iload_n 2, 1) := by decide +kernel
theorem dX12_holding_68 : decode cX12_holding 68 = .ok (.invokestatic 127, 3) := by decide +kernel
theorem dX12_holding_71 : decode cX12_holding 71 = .ok (.ifCond .eq 12, 3) := by decide +kernel
theorem dX12_holding_74 : decode cX12_holding 74 = .ok (.lconst 1, 1) := by decide +kernel
theorem dX12_holding_75 : decode cX12_holding 75 = .ok (.iload_n 2, 1) := by decide +kernel
theorem dX12_holding_76 : decode cX12_holding 76 = .ok (.bipush 63, 2) := by decide +kernel
theorem dX12_holding_78 : decode cX12_holding 78 = .ok (.iand, 1) := by decide +kernel
theorem dX12_holding_79 : decode cX12_holding 79 = .ok (.lshl, 1) := by decide +kernel
theorem dX12_holding_80 : decode cX12_holding 80 = .ok (.goto 4, 3) := by decide +kernel
theorem dX12_holding_83 : decode cX12_holding 83 = .ok (.lconst 0, 1) := by decide +kernel
theorem dX12_holding_84 : decode cX12_holding 84 = .ok (.lor, 1) := by decide +kernel
theorem dX12_holding_85 : decode cX12_holding 85 = .ok (.lastore, 1) := by decide +kernel
theorem dX12_holding_86 : decode cX12_holding 86 = .ok (.iinc 2 1, 3) := by decide +kernel
theorem dX12_holding_89 : decode cX12_holding 89 = .ok (.goto (-63), 3) := by decide +kernel
theorem dX12_holding_92 : decode cX12_holding 92 = .ok (.return_, 1) := by decide +kernel
theorem dX12_beginning_0 : decode cX12_beginning 0 = .ok (.aload_n 0, 1) := by decide +kernel
theorem dX12_beginning_1 : decode cX12_beginning 1 = .ok (.getfield 17, 3) := by decide +kernel
theorem dX12_beginning_4 : decode cX12_beginning 4 = .ok (.bipush 6, 2) := by decide +kernel
theorem dX12_beginning_6 : decode cX12_beginning 6 = .ok (.iload_n 1, 1) := by decide +kernel
theorem dX12_beginning_7 : decode cX12_beginning 7 = .ok (.imul, 1) := by decide +kernel
theorem dX12_beginning_8 : decode cX12_beginning 8 = .ok (.iaload, 1) := by decide +kernel
theorem dX12_beginning_9 : decode cX12_beginning 9 = .ok (.aload_n 0, 1) := by decide +kernel
theorem dX12_beginning_10 : decode cX12_beginning 10 = .ok (.invokevirtual 133, 3) := by decide +kernel
theorem dX12_beginning_13 : decode cX12_beginning 13 = .ok (.iand, 1) := by decide +kernel
theorem dX12_beginning_14 : decode cX12_beginning 14 = .ok (.istore_n 2, 1) := by decide +kernel
theorem dX12_beginning_15 : decode cX12_beginning 15 = .ok (.aload_n 0, 1) := by decide +kernel
theorem dX12_beginning_16 : decode cX12_beginning 16 = .ok (.getfield 17, 3) := by decide +kernel
theorem dX12_beginning_19 : decode cX12_beginning 19 = .ok (.bipush 6, 2) := by decide +kernel
theorem dX12_beginning_21 : decode cX12_beginning 21 = .ok (.iload_n 1, 1) := by decide +kernel
theorem dX12_beginning_22 : decode cX12_beginning 22 = .ok (.imul, 1) := by decide +kernel
theorem dX12_beginning_23 : decode cX12_beginning 23 = .ok (.iconst 1, 1) := by decide +kernel
theorem dX12_beginning_24 : decode cX12_beginning 24 = .ok (.iadd, 1) := by decide +kernel
theorem dX12_beginning_25 : decode cX12_beginning 25 = .ok (.iaload, 1) := by decide +kernel
theorem dX12_beginning_26 : decode cX12_beginning 26 = .ok (.aload_n 0, 1) := by decide +kernel
theorem dX12_beginning_27 : decode cX12_beginning 27 = .ok (.invokevirtual 133, 3) := by decide +kernel
theorem dX12_beginning_30 : decode cX12_beginning 30 = .ok (.iand, 1) := by decide +kernel
theorem dX12_beginning_31 : decode cX12_beginning 31 = .ok (.istore_n 3, 1) := by decide +kernel
theorem dX12_beginning_32 : decode cX12_beginning 32 = .ok (.aload_n 0, 1) := by decide +kernel
theorem dX12_beginning_33 : decode cX12_beginning 33 = .ok (.getfield 17, 3) := by decide +kernel
theorem dX12_beginning_36 : decode cX12_beginning 36 = .ok (.bipush 6, 2) := by decide +kernel
theorem dX12_beginning_38 : decode cX12_beginning 38 = .ok (.iload_n 1, 1) := by decide +kernel
theorem dX12_beginning_39 : decode cX12_beginning 39 = .ok (.imul, 1) := by decide +kernel
theorem dX12_beginning_40 : decode cX12_beginning 40 = .ok (.iconst 2, 1) := by decide +kernel
theorem dX12_beginning_41 : decode cX12_beginning 41 = .ok (.iadd, 1) := by decide +kernel
theorem dX12_beginning_42 : decode cX12_beginning 42 = .ok (.iaload, 1) := by decide +kernel
theorem dX12_beginning_43 : decode cX12_beginning 43 = .ok (.iconst 1, 1) := by decide +kernel
theorem dX12_beginning_44 : decode cX12_beginning 44 = .ok (.if_icmp .ne 7, 3) := by decide +kernel
theorem dX12_beginning_47 : decode cX12_beginning 47 = .ok (.iconst 1, 1) := by decide +kernel
theorem dX12_beginning_48 : decode cX12_beginning 48 = .ok (.goto 4, 3) := by decide +kernel
theorem dX12_beginning_51 : decode cX12_beginning 51 = .ok (.iconst 0, 1) := by decide +kernel
theorem dX12_beginning_52 : decode cX12_beginning 52 = .ok (.istore 4, 2) := by decide +kernel
theorem dX12_beginning_54 : decode cX12_beginning 54 = .ok (.iconst 0, 1) := by decide +kernel
theorem dX12_beginning_55 : decode cX12_beginning 55 = .ok (.istore 5, 2) := by decide +kernel
theorem dX12_beginning_57 : decode cX12_beginning 57 = .ok (.iload 5, 2) := by decide +kernel
theorem dX12_beginning_59 : decode cX12_beginning 59 = .ok (.iconst 3, 1) := by decide +kernel
theorem dX12_beginning_60 : decode cX12_beginning 60 = .ok (.if_icmp .ge 166, 3) := by decide +kernel
theorem dX12_beginning_63 : decode cX12_beginning 63 = .ok (.sipush 160, 3) := by decide +kernel
theorem dX12_beginning_66 : decode cX12_beginning 66 = .ok (.iload 5, 2) := by decide +kernel
theorem dX12_beginning_68 : decode cX12_beginning 68 = .ok (.imul, 1) := by decide +kernel
theorem dX12_beginning_69 : decode cX12_beginning 69 = .ok (.iconst 4, 1) := by decide +kernel
theorem dX12_beginning_70 : decode cX12_beginning 70 = .ok (.iload_n 1, 1) := by decide +kernel
theorem dX12_beginning_71 : decode cX12_beginning 71 = .ok (.imul, 1) := by decide +kernel
theorem dX12_beginning_72 : decode cX12_beginning 72 = .ok (.iadd, 1) := by decide +kernel
theorem dX12_beginning_73 : decode cX12_beginning 73 = .ok (.istore 6, 2) := by decide +kernel
theorem dX12_beginning_75 : decode cX12_beginning 75 = .ok (.iconst 0, 1) := by decide +kernel
theorem dX12_beginning_76 : decode cX12_beginning 76 = .ok (.istore 7, 2) := by decide +kernel
theorem dX12_beginning_78 : decode cX12_beginning 78 = .ok (.iload 7, 2) := by decide +kernel
theorem dX12_beginning_80 : decode cX12_beginning 80 = .ok (.iconst 4, 1) := by decide +kernel
theorem dX12_beginning_81 : decode cX12_beginning 81 = .ok (.if_icmp .ge 31, 3) := by decide +kernel
theorem dX12_beginning_84 : decode cX12_beginning 84 = .ok (.aload_n 0, 1) := by decide +kernel
theorem dX12_beginning_85 : decode cX12_beginning 85 = .ok (.getfield 30, 3) := by decide +kernel
theorem dX12_beginning_88 : decode cX12_beginning 88 = .ok (.iload 6, 2) := by decide +kernel
theorem dX12_beginning_90 : decode cX12_beginning 90 = .ok (.iload 7, 2) := by decide +kernel
theorem dX12_beginning_92 : decode cX12_beginning 92 = .ok (.iadd, 1) := by decide +kernel
theorem dX12_beginning_93 : decode cX12_beginning 93 = .ok (.iload 4, 2) := by decide +kernel
theorem dX12_beginning_95 : decode cX12_beginning 95 = .ok (.ifCond .eq 7, 3) := by decide +kernel
theorem dX12_beginning_98 : decode cX12_beginning 98 = .ok (.lconst 0, 1) := by decide +kernel
theorem dX12_beginning_99 : decode cX12_beginning 99 = .ok (.goto 6, 3) := by decide +kernel
theorem dX12_beginning_102 : decode cX12_beginning 102 = .ok (.ldc2_w 137, 3) := by decide +kernel
theorem dX12_beginning_105 : decode cX12_beginning 105 = .ok (.lastore, 1) := by decide +kernel
theorem dX12_beginning_106 : decode cX12_beginning 106 = .ok (.iinc 7 1, 3) := by decide +kernel
theorem dX12_beginning_109 : decode cX12_beginning 109 = .ok (.goto (-31), 3) := by decide +kernel
theorem dX12_beginning_112 : decode cX12_beginning 112 = .ok (.iconst 0, 1) := by decide +kernel
theorem dX12_beginning_113 : decode cX12_beginning 113 = .ok (.istore 7, 2) := by decide +kernel
theorem dX12_beginning_115 : decode cX12_beginning 115 = .ok (.iload 7, 2) := by decide +kernel
theorem dX12_beginning_117 : decode cX12_beginning 117 = .ok (.sipush 256, 3) := by decide +kernel
theorem dX12_beginning_120 : decode cX12_beginning 120 = .ok (.if_icmp .ge 100, 3) := by decide +kernel
theorem dX12_beginning_123 : decode cX12_beginning 123 = .ok (.iload 5, 2) := by decide +kernel
theorem dX12_beginning_125 : decode cX12_beginning 125 = .ok (.iload 4, 2) := by decide +kernel
theorem dX12_beginning_127 : decode cX12_beginning 127 = .ok (.ifCond .eq 7, 3) := by decide +kernel
theorem dX12_beginning_130 : decode cX12_beginning 130 = .ok (.iconst 0, 1) := by decide +kernel
theorem dX12_beginning_131 : decode cX12_beginning 131 = .ok (.goto 4, 3) := by decide +kernel
theorem dX12_beginning_134 : decode cX12_beginning 134 = .ok (.iconst 1, 1) := by decide +kernel
theorem dX12_beginning_135 : decode cX12_beginning 135 = .ok (.if_icmp .ne 85, 3) := by decide +kernel
theorem dX12_beginning_138 : decode cX12_beginning 138 = .ok (.lconst 1, 1) := by decide +kernel
theorem dX12_beginning_139 : decode cX12_beginning 139 = .ok (.iload 7, 2) := by decide +kernel
theorem dX12_beginning_141 : decode cX12_beginning 141 = .ok (.bipush 63, 2) := by decide +kernel
theorem dX12_beginning_143 : decode cX12_beginning 143 = .ok (.iand, 1) := by decide +kernel
theorem dX12_beginning_144 : decode cX12_beginning 144 = .ok (.lshl, 1) := by decide +kernel
theorem dX12_beginning_145 : decode cX12_beginning 145 = .ok (.lstore 8, 2) := by decide +kernel
theorem dX12_beginning_147 : decode cX12_beginning 147 = .ok (.iload_n 2, 1) := by decide +kernel
theorem dX12_beginning_148 : decode cX12_beginning 148 = .ok (.iload_n 3, 1) := by decide +kernel
theorem dX12_beginning_149 : decode cX12_beginning 149 = .ok (.iload 7, 2) := by decide +kernel
theorem dX12_beginning_151 : decode cX12_beginning 151 = .ok (.invokestatic 127, 3) := by decide +kernel
theorem dX12_beginning_154 : decode cX12_beginning 154 = .ok (.ifCond .eq 60, 3) := by decide +kernel
theorem dX12_beginning_157 : decode cX12_beginning 157 = .ok (.aload_n 0, 1) := by decide +kernel
theorem dX12_beginning_158 : decode cX12_beginning 158 = .ok (.getfield 30, 3) := by decide +kernel
theorem dX12_beginning_161 : decode cX12_beginning 161 = .ok (.iload 6, 2) := by decide +kernel
theorem dX12_beginning_163 : decode cX12_beginning 163 = .ok (.iload 7, 2) := by decide +kernel
theorem dX12_beginning_165 : decode cX12_beginning 165 = .ok (.bipush 6, 2) := by decide +kernel
theorem dX12_beginning_167 : decode cX12_beginning 167 = .ok (.ishr, 1) := by decide +kernel
theorem dX12_beginning_168 : decode cX12_beginning 168 = .ok (.iadd, 1) := by decide +kernel
theorem dX12_beginning_169 : decode cX12_beginning 169 = .ok (.iload 4, 2) := by decide +kernel
theorem dX12_beginning_171 : decode cX12_beginning 171 = .ok (.ifCond .eq 22, 3) := by decide +kernel
theorem dX12_beginning_174 : decode cX12_beginning 174 = .ok (.aload_n 0, 1) := by decide +kernel
theorem dX12_beginning_175 : decode cX12_beginning 175 = .ok (.getfield 30, 3) := by decide +kernel
theorem dX12_beginning_178 : decode cX12_beginning 178 = .ok (.iload 6, 2) := by decide +kernel
theorem dX12_beginning_180 : decode cX12_beginning 180 = .ok (.iload 7, 2) := by decide +kernel
theorem dX12_beginning_182 : decode cX12_beginning 182 = .ok (.bipush 6, 2) := by decide +kernel
theorem dX12_beginning_184 : decode cX12_beginning 184 = .ok (.ishr, 1) := by decide +kernel
theorem dX12_beginning_185 : decode cX12_beginning 185 = .ok (.iadd, 1) := by decide +kernel
theorem dX12_beginning_186 : decode cX12_beginning 186 = .ok (.laload, 1) := by decide +kernel
theorem dX12_beginning_187 : decode cX12_beginning 187 = .ok (.lload 8, 2) := by decide +kernel
theorem dX12_beginning_189 : decode cX12_beginning 189 = .ok (.lor, 1) := by decide +kernel
theorem dX12_beginning_190 : decode cX12_beginning 190 = .ok (.goto 23, 3) := by decide +kernel
theorem dX12_beginning_193 : decode cX12_beginning 193 = .ok (.aload_n 0, 1) := by decide +kernel
theorem dX12_beginning_194 : decode cX12_beginning 194 = .ok (.getfield 30, 3) := by decide +kernel
theorem dX12_beginning_197 : decode cX12_beginning 197 = .ok (.iload 6, 2) := by decide +kernel
theorem dX12_beginning_199 : decode cX12_beginning 199 = .ok (.iload 7, 2) := by decide +kernel
theorem dX12_beginning_201 : decode cX12_beginning 201 = .ok (.bipush 6, 2) := by decide +kernel
theorem dX12_beginning_203 : decode cX12_beginning 203 = .ok (.ishr, 1) := by decide +kernel
theorem dX12_beginning_204 : decode cX12_beginning 204 = .ok (.iadd, 1) := by decide +kernel
theorem dX12_beginning_205 : decode cX12_beginning 205 = .ok (.laload, 1) := by decide +kernel
theorem dX12_beginning_206 : decode cX12_beginning 206 = .ok (.lload 8, 2) := by decide +kernel
theorem dX12_beginning_208 : decode cX12_beginning 208 = .ok (.ldc2_w 137, 3) := by decide +kernel
theorem dX12_beginning_211 : decode cX12_beginning 211 = .ok (.lxor, 1) := by decide +kernel
theorem dX12_beginning_212 : decode cX12_beginning 212 = .ok (.land, 1) := by decide +kernel
theorem dX12_beginning_213 : decode cX12_beginning 213 = .ok (.lastore, 1) := by decide +kernel
theorem dX12_beginning_214 : decode cX12_beginning 214 = .ok (.iinc 7 1, 3) := by decide +kernel
theorem dX12_beginning_217 : decode cX12_beginning 217 = .ok (.goto (-102), 3) := by decide +kernel
theorem dX12_beginning_220 : decode cX12_beginning 220 = .ok (.iinc 5 1, 3) := by decide +kernel
theorem dX12_beginning_223 : decode cX12_beginning 223 = .ok (.goto (-166), 3) := by decide +kernel
theorem dX12_beginning_226 : decode cX12_beginning 226 = .ok (.return_, 1) := by decide +kernel
theorem dX12_spreads_0 : decode cX12_spreads 0 = .ok (.lconst 0, 1) := by decide +kernel
theorem dX12_spreads_1 : decode cX12_spreads 1 = .ok (.lstore_n 3, 1) := by decide +kernel
theorem dX12_spreads_2 : decode cX12_spreads 2 = .ok (.lconst 0, 1) := by decide +kernel
theorem dX12_spreads_3 : decode cX12_spreads 3 = .ok (.lstore 5, 2) := by decide +kernel
theorem dX12_spreads_5 : decode cX12_spreads 5 = .ok (.lconst 0, 1) := by decide +kernel
theorem dX12_spreads_6 : decode cX12_spreads 6 = .ok (.lstore 7, 2) := by decide +kernel
theorem dX12_spreads_8 : decode cX12_spreads 8 = .ok (.lconst 0, 1) := by decide +kernel
theorem dX12_spreads_9 : decode cX12_spreads 9 = .ok (.lstore 9, 2) := by decide +kernel
theorem dX12_spreads_11 : decode cX12_spreads 11 = .ok (.iconst 0, 1) := by decide +kernel
theorem dX12_spreads_12 : decode cX12_spreads 12 = .ok (.istore 11, 2) := by decide +kernel
theorem dX12_spreads_14 : decode cX12_spreads 14 = .ok (.iload 11, 2) := by decide +kernel
theorem dX12_spreads_16 : decode cX12_spreads 16 = .ok (.iconst 4, 1) := by decide +kernel
theorem dX12_spreads_17 : decode cX12_spreads 17 = .ok (.if_icmp .ge 14, 3) := by decide +kernel
theorem dX12_spreads_20 : decode cX12_spreads 20 = .ok (.aload_n 1, 1) := by decide +kernel
theorem dX12_spreads_21 : decode cX12_spreads 21 = .ok (.iload 11, 2) := by decide +kernel
theorem dX12_spreads_23 : decode cX12_spreads 23 = .ok (.lconst 0, 1) := by decide +kernel
theorem dX12_spreads_24 : decode cX12_spreads 24 = .ok (.lastore, 1) := by decide +kernel
theorem dX12_spreads_25 : decode cX12_spreads 25 = .ok (.iinc 11 1, 3) := by decide +kernel
theorem dX12_spreads_28 : decode cX12_spreads 28 = .ok (.goto (-14), 3) := by decide +kernel
theorem dX12_spreads_31 : decode cX12_spreads 31 = .ok (.iconst 0, 1) := by decide +kernel
theorem dX12_spreads_32 : decode cX12_spreads 32 = .ok (.istore 11, 2) := by decide +kernel
theorem dX12_spreads_34 : decode cX12_spreads 34 = .ok (.iload 11, 2) := by decide +kernel
theorem dX12_spreads_36 : decode cX12_spreads 36 = .ok (.sipush 256, 3) := by decide +kernel
theorem dX12_spreads_39 : decode cX12_spreads 39 = .ok (.if_icmp .ge 118, 3) := by decide +kernel
theorem dX12_spreads_42 : decode cX12_spreads 42 = .ok (.aload_n 0, 1) := by decide +kernel
theorem dX12_spreads_43 : decode cX12_spreads 43 = .ok (.iconst 0, 1) := by decide +kernel
theorem dX12_spreads_44 : decode cX12_spreads 44 = .ok (.iload 11, 2) := by decide +kernel
theorem dX12_spreads_46 : decode cX12_spreads 46 = .ok (.invokestatic 143, 3) := by decide +kernel
theorem dX12_spreads_49 : decode cX12_spreads 49 = .ok (.ifCond .eq 102, 3) := by decide +kernel
theorem dX12_spreads_52 : decode cX12_spreads 52 = .ok (.iload 11, 2) := by decide +kernel
theorem dX12_spreads_54 : decode cX12_spreads 54 = .ok (.iload_n 2, 1) := by decide +kernel
theorem dX12_spreads_55 : decode cX12_spreads 55 = .ok (.iand, 1) := by decide +kernel
theorem dX12_spreads_56 : decode cX12_spreads 56 = .ok (.istore 12, 2) := by decide +kernel
theorem dX12_spreads_58 : decode cX12_spreads 58 = .ok (.lload_n 3, 1) := by decide +kernel
theorem dX12_spreads_59 : decode cX12_spreads 59 = .ok (.iload 12, 2) := by decide +kernel
theorem dX12_spreads_61 : decode cX12_spreads 61 = .ok (.bipush 64, 2) := by decide +kernel
theorem dX12_spreads_63 : decode cX12_spreads 63 = .ok (.if_icmp .ge 10, 3) := by decide +kernel
theorem dX12_spreads_66 : decode cX12_spreads 66 = .ok (.lconst 1, 1) := by decide +kernel
theorem dX12_spreads_67 : decode cX12_spreads 67 = .ok (.iload 12, 2) := by decide +kernel
theorem dX12_spreads_69 : decode cX12_spreads 69 = .ok (.lshl, 1) := by decide +kernel
theorem dX12_spreads_70 : decode cX12_spreads 70 = .ok (.goto 4, 3) := by decide +kernel
theorem dX12_spreads_73 : decode cX12_spreads 73 = .ok (.lconst 0, 1) := by decide +kernel
theorem dX12_spreads_74 : decode cX12_spreads 74 = .ok (.lor, 1) := by decide +kernel
theorem dX12_spreads_75 : decode cX12_spreads 75 = .ok (.lstore_n 3, 1) := by decide +kernel
theorem dX12_spreads_76 : decode cX12_spreads 76 = .ok (.lload 5, 2) := by decide +kernel
theorem dX12_spreads_78 : decode cX12_spreads 78 = .ok (.iload 12, 2) := by decide +kernel
theorem dX12_spreads_80 : decode cX12_spreads 80 = .ok (.bipush 64, 2) := by decide +kernel
theorem dX12_spreads_82 : decode cX12_spreads 82 = .ok (.idiv, 1) := by decide +kernel
theorem dX12_spreads_83 : decode cX12_spreads 83 = .ok (.iconst 1, 1) := by decide +kernel
theorem dX12_spreads_84 : decode cX12_spreads 84 = .ok (.if_icmp .ne 13, 3) := by decide +kernel
theorem dX12_spreads_87 : decode cX12_spreads 87 = .ok (.lconst 1, 1) := by decide +kernel
theorem dX12_spreads_88 : decode cX12_spreads 88 = .ok (.iload 12, 2) := by decide +kernel
theorem dX12_spreads_90 : decode cX12_spreads 90 = .ok (.bipush 63, 2) := by decide +kernel
theorem dX12_spreads_92 : decode cX12_spreads 92 = .ok (.iand, 1) := by decide +kernel
theorem dX12_spreads_93 : decode cX12_spreads 93 = .ok (.lshl, 1) := by decide +kernel
theorem dX12_spreads_94 : decode cX12_spreads 94 = .ok (.goto 4, 3) := by decide +kernel
theorem dX12_spreads_97 : decode cX12_spreads 97 = .ok (.lconst 0, 1) := by decide +kernel
theorem dX12_spreads_98 : decode cX12_spreads 98 = .ok (.lor, 1) := by decide +kernel
theorem dX12_spreads_99 : decode cX12_spreads 99 = .ok (.lstore 5, 2) := by decide +kernel
theorem dX12_spreads_101 : decode cX12_spreads 101 = .ok (.lload 7, 2) := by decide +kernel
theorem dX12_spreads_103 : decode cX12_spreads 103 = .ok (.iload 12, 2) := by decide +kernel
theorem dX12_spreads_105 : decode cX12_spreads 105 = .ok (.bipush 64, 2) := by decide +kernel
theorem dX12_spreads_107 : decode cX12_spreads 107 = .ok (.idiv, 1) := by decide +kernel
theorem dX12_spreads_108 : decode cX12_spreads 108 = .ok (.iconst 2, 1) := by decide +kernel
theorem dX12_spreads_109 : decode cX12_spreads 109 = .ok (.if_icmp .ne 13, 3) := by decide +kernel
theorem dX12_spreads_112 : decode cX12_spreads 112 = .ok (.lconst 1, 1) := by decide +kernel
theorem dX12_spreads_113 : decode cX12_spreads 113 = .ok (.iload 12, 2) := by decide +kernel
theorem dX12_spreads_115 : decode cX12_spreads 115 = .ok (.bipush 63, 2) := by decide +kernel
theorem dX12_spreads_117 : decode cX12_spreads 117 = .ok (.iand, 1) := by decide +kernel
theorem dX12_spreads_118 : decode cX12_spreads 118 = .ok (.lshl, 1) := by decide +kernel
theorem dX12_spreads_119 : decode cX12_spreads 119 = .ok (.goto 4, 3) := by decide +kernel
theorem dX12_spreads_122 : decode cX12_spreads 122 = .ok (.lconst 0, 1) := by decide +kernel
theorem dX12_spreads_123 : decode cX12_spreads 123 = .ok (.lor, 1) := by decide +kernel
theorem dX12_spreads_124 : decode cX12_spreads 124 = .ok (.lstore 7, 2) := by decide +kernel
theorem dX12_spreads_126 : decode cX12_spreads 126 = .ok (.lload 9, 2) := by decide +kernel
theorem dX12_spreads_128 : decode cX12_spreads 128 = .ok (.iload 12, 2) := by decide +kernel
theorem dX12_spreads_130 : decode cX12_spreads 130 = .ok (.bipush 64, 2) := by decide +kernel
theorem dX12_spreads_132 : decode cX12_spreads 132 = .ok (.idiv, 1) := by decide +kernel
theorem dX12_spreads_133 : decode cX12_spreads 133 = .ok (.iconst 3, 1) := by decide +kernel
theorem dX12_spreads_134 : decode cX12_spreads 134 = .ok (.if_icmp .ne 13, 3) := by decide +kernel
theorem dX12_spreads_137 : decode cX12_spreads 137 = .ok (.lconst 1, 1) := by decide +kernel
theorem dX12_spreads_138 : decode cX12_spreads 138 = .ok (.iload 12, 2) := by decide +kernel
theorem dX12_spreads_140 : decode cX12_spreads 140 = .ok (.bipush 63, 2) := by decide +kernel
theorem dX12_spreads_142 : decode cX12_spreads 142 = .ok (.iand, 1) := by decide +kernel
theorem dX12_spreads_143 : decode cX12_spreads 143 = .ok (.lshl, 1) := by decide +kernel
theorem dX12_spreads_144 : decode cX12_spreads 144 = .ok (.goto 4, 3) := by decide +kernel
theorem dX12_spreads_147 : decode cX12_spreads 147 = .ok (.lconst 0, 1) := by decide +kernel
theorem dX12_spreads_148 : decode cX12_spreads 148 = .ok (.lor, 1) := by decide +kernel
theorem dX12_spreads_149 : decode cX12_spreads 149 = .ok (.lstore 9, 2) := by decide +kernel
theorem dX12_spreads_151 : decode cX12_spreads 151 = .ok (.iinc 11 1, 3) := by decide +kernel
theorem dX12_spreads_154 : decode cX12_spreads 154 = .ok (.goto (-120), 3) := by decide +kernel
theorem dX12_spreads_157 : decode cX12_spreads 157 = .ok (.iconst 0, 1) := by decide +kernel
theorem dX12_spreads_158 : decode cX12_spreads 158 = .ok (.istore 11, 2) := by decide +kernel
theorem dX12_spreads_160 : decode cX12_spreads 160 = .ok (.iload 11, 2) := by decide +kernel
theorem dX12_spreads_162 : decode cX12_spreads 162 = .ok (.sipush 256, 3) := by decide +kernel
theorem dX12_spreads_165 : decode cX12_spreads 165 = .ok (.if_icmp .ge 85, 3) := by decide +kernel
theorem dX12_spreads_168 : decode cX12_spreads 168 = .ok (.iload 11, 2) := by decide +kernel
theorem dX12_spreads_170 : decode cX12_spreads 170 = .ok (.iload_n 2, 1) := by decide +kernel
theorem dX12_spreads_171 : decode cX12_spreads 171 = .ok (.iand, 1) := by decide +kernel
theorem dX12_spreads_172 : decode cX12_spreads 172 = .ok (.istore 12, 2) := by decide +kernel
theorem dX12_spreads_174 : decode cX12_spreads 174 = .ok (.iload 12, 2) := by decide +kernel
theorem dX12_spreads_176 : decode cX12_spreads 176 = .ok (.bipush 64, 2) := by decide +kernel
theorem dX12_spreads_178 : decode cX12_spreads 178 = .ok (.idiv, 1) := by decide +kernel
theorem dX12_spreads_179 : decode cX12_spreads 179 = .ok (.ifCond .ne 7, 3) := by decide +kernel
theorem dX12_spreads_182 : decode cX12_spreads 182 = .ok (.lload_n 3, 1) := by decide +kernel
theorem dX12_spreads_183 : decode cX12_spreads 183 = .ok (.goto 33, 3) := by decide +kernel
theorem dX12_spreads_186 : decode cX12_spreads 186 = .ok (.iload 12, 2) := by decide +kernel
theorem dX12_spreads_188 : decode cX12_spreads 188 = .ok (.bipush 64, 2) := by decide +kernel
theorem dX12_spreads_190 : decode cX12_spreads 190 = .ok (.idiv, 1) := by decide +kernel
theorem dX12_spreads_191 : decode cX12_spreads 191 = .ok (.iconst 1, 1) := by decide +kernel
theorem dX12_spreads_192 : decode cX12_spreads 192 = .ok (.if_icmp .ne 8, 3) := by decide +kernel
theorem dX12_spreads_195 : decode cX12_spreads 195 = .ok (.lload 5, 2) := by decide +kernel
theorem dX12_spreads_197 : decode cX12_spreads 197 = .ok (.goto 19, 3) := by decide +kernel
theorem dX12_spreads_200 : decode cX12_spreads 200 = .ok (.iload 12, 2) := by decide +kernel
theorem dX12_spreads_202 : decode cX12_spreads 202 = .ok (.bipush 64, 2) := by decide +kernel
theorem dX12_spreads_204 : decode cX12_spreads 204 = .ok (.idiv, 1) := by decide +kernel
theorem dX12_spreads_205 : decode cX12_spreads 205 = .ok (.iconst 2, 1) := by decide +kernel
theorem dX12_spreads_206 : decode cX12_spreads 206 = .ok (.if_icmp .ne 8, 3) := by decide +kernel
theorem dX12_spreads_209 : decode cX12_spreads 209 = .ok (.lload 7, 2) := by decide +kernel
theorem dX12_spreads_211 : decode cX12_spreads 211 = .ok (.goto 5, 3) := by decide +kernel
theorem dX12_spreads_214 : decode cX12_spreads 214 = .ok (.lload 9, 2) := by decide +kernel
theorem dX12_spreads_216 : decode cX12_spreads 216 = .ok (.lstore 13, 2) := by decide +kernel
theorem dX12_spreads_218 : decode cX12_spreads 218 = .ok (.aload_n 1, 1) := by decide +kernel
theorem dX12_spreads_219 : decode cX12_spreads 219 = .ok (.iload 11, 2) := by decide +kernel
theorem dX12_spreads_221 : decode cX12_spreads 221 = .ok (.bipush 6, 2) := by decide +kernel
theorem dX12_spreads_223 : decode cX12_spreads 223 = .ok (.ishr, 1) := by decide +kernel
theorem dX12_spreads_224 : decode cX12_spreads 224 = .ok (.dup2, 1) := by decide +kernel
theorem dX12_spreads_225 : decode cX12_spreads 225 = .ok (.laload, 1) := by decide +kernel
theorem dX12_spreads_226 : decode cX12_spreads 226 = .ok (.lload 13, 2) := by decide +kernel
theorem dX12_spreads_228 : decode cX12_spreads 228 = .ok (.iload 12, 2) := by decide +kernel
theorem dX12_spreads_230 : decode cX12_spreads 230 = .ok (.bipush 63, 2) := by decide +kernel
theorem dX12_spreads_232 : decode cX12_spreads 232 = .ok (.iand, 1) := by decide +kernel
theorem dX12_spreads_233 : decode cX12_spreads 233 = .ok (.lshr, 1) := by decide +kernel
theorem dX12_spreads_234 : decode cX12_spreads 234 = .ok (.lconst 1, 1) := by decide +kernel
theorem dX12_spreads_235 : decode cX12_spreads 235 = .ok (.land, 1) := by decide +kernel
theorem dX12_spreads_236 : decode cX12_spreads 236 = .ok (.iload 11, 2) := by decide +kernel
theorem dX12_spreads_238 : decode cX12_spreads 238 = .ok (.bipush 63, 2) := by decide +kernel
theorem dX12_spreads_240 : decode cX12_spreads 240 = .ok (.iand, 1) := by decide +kernel
theorem dX12_spreads_241 : decode cX12_spreads 241 = .ok (.lshl, 1) := by decide +kernel
theorem dX12_spreads_242 : decode cX12_spreads 242 = .ok (.lor, 1) := by decide +kernel
theorem dX12_spreads_243 : decode cX12_spreads 243 = .ok (.lastore, 1) := by decide +kernel
theorem dX12_spreads_244 : decode cX12_spreads 244 = .ok (.iinc 11 1, 3) := by decide +kernel
theorem dX12_spreads_247 : decode cX12_spreads 247 = .ok (.goto (-87), 3) := by decide +kernel
theorem dX12_spreads_250 : decode cX12_spreads 250 = .ok (.return_, 1) := by decide +kernel
theorem dX12_bounds_0 : decode cX12_bounds 0 = .ok (.aload_n 0, 1) := by decide +kernel
theorem dX12_bounds_1 : decode cX12_bounds 1 = .ok (.invokevirtual 133, 3) := by decide +kernel
theorem dX12_bounds_4 : decode cX12_bounds 4 = .ok (.istore_n 1, 1) := by decide +kernel
theorem dX12_bounds_5 : decode cX12_bounds 5 = .ok (.iconst 0, 1) := by decide +kernel
theorem dX12_bounds_6 : decode cX12_bounds 6 = .ok (.istore_n 2, 1) := by decide +kernel
theorem dX12_bounds_7 : decode cX12_bounds 7 = .ok (.iload_n 2, 1) := by decide +kernel
theorem dX12_bounds_8 : decode cX12_bounds 8 = .ok (.iconst 4, 1) := by decide +kernel
theorem dX12_bounds_9 : decode cX12_bounds 9 = .ok (.if_icmp .ge 123, 3) := by decide +kernel
theorem dX12_bounds_12 : decode cX12_bounds 12 = .ok (.aload_n 0, 1) := by decide +kernel
theorem dX12_bounds_13 : decode cX12_bounds 13 = .ok (.getfield 33, 3) := by decide +kernel
theorem dX12_bounds_16 : decode cX12_bounds 16 = .ok (.iload_n 2, 1) := by decide +kernel
theorem dX12_bounds_17 : decode cX12_bounds 17 = .ok (.ldc2_w 137, 3) := by decide +kernel
theorem dX12_bounds_20 : decode cX12_bounds 20 = .ok (.lastore, 1) := by decide +kernel
theorem dX12_bounds_21 : decode cX12_bounds 21 = .ok (.aload_n 0, 1) := by decide +kernel
theorem dX12_bounds_22 : decode cX12_bounds 22 = .ok (.getfield 36, 3) := by decide +kernel
theorem dX12_bounds_25 : decode cX12_bounds 25 = .ok (.iload_n 2, 1) := by decide +kernel
theorem dX12_bounds_26 : decode cX12_bounds 26 = .ok (.ldc2_w 137, 3) := by decide +kernel
theorem dX12_bounds_29 : decode cX12_bounds 29 = .ok (.lastore, 1) := by decide +kernel
theorem dX12_bounds_30 : decode cX12_bounds 30 = .ok (.iconst 0, 1) := by decide +kernel
theorem dX12_bounds_31 : decode cX12_bounds 31 = .ok (.istore_n 3, 1) := by decide +kernel
theorem dX12_bounds_32 : decode cX12_bounds 32 = .ok (.iload_n 3, 1) := by decide +kernel
theorem dX12_bounds_33 : decode cX12_bounds 33 = .ok (.aload_n 0, 1) := by decide +kernel
theorem dX12_bounds_34 : decode cX12_bounds 34 = .ok (.getfield 112, 3) := by decide +kernel
theorem dX12_bounds_37 : decode cX12_bounds 37 = .ok (.if_icmp .ge 89, 3) := by decide +kernel
theorem dX12_bounds_40 : decode cX12_bounds 40 = .ok (.aload_n 0, 1) := by decide +kernel
theorem dX12_bounds_41 : decode cX12_bounds 41 = .ok (.getfield 33, 3) := by decide +kernel
theorem dX12_bounds_44 : decode cX12_bounds 44 = .ok (.iload_n 2, 1) := by decide +kernel
theorem dX12_bounds_45 : decode cX12_bounds 45 = .ok (.dup2, 1) := by decide +kernel
theorem dX12_bounds_46 : decode cX12_bounds 46 = .ok (.laload, 1) := by decide +kernel
theorem dX12_bounds_47 : decode cX12_bounds 47 = .ok (.aload_n 0, 1) := by decide +kernel
theorem dX12_bounds_48 : decode cX12_bounds 48 = .ok (.getfield 17, 3) := by decide +kernel
theorem dX12_bounds_51 : decode cX12_bounds 51 = .ok (.bipush 6, 2) := by decide +kernel
theorem dX12_bounds_53 : decode cX12_bounds 53 = .ok (.iload_n 3, 1) := by decide +kernel
theorem dX12_bounds_54 : decode cX12_bounds 54 = .ok (.imul, 1) := by decide +kernel
theorem dX12_bounds_55 : decode cX12_bounds 55 = .ok (.iconst 2, 1) := by decide +kernel
theorem dX12_bounds_56 : decode cX12_bounds 56 = .ok (.iadd, 1) := by decide +kernel
theorem dX12_bounds_57 : decode cX12_bounds 57 = .ok (.iaload, 1) := by decide +kernel
theorem dX12_bounds_58 : decode cX12_bounds 58 = .ok (.iconst 1, 1) := by decide +kernel
theorem dX12_bounds_59 : decode cX12_bounds 59 = .ok (.if_icmp .ne 16, 3) := by decide +kernel
theorem dX12_bounds_62 : decode cX12_bounds 62 = .ok (.aload_n 0, 1) := by decide +kernel
theorem dX12_bounds_63 : decode cX12_bounds 63 = .ok (.getfield 26, 3) := by decide +kernel
theorem dX12_bounds_66 : decode cX12_bounds 66 = .ok (.iconst 4, 1) := by decide +kernel
theorem dX12_bounds_67 : decode cX12_bounds 67 = .ok (.iload_n 3, 1) := by decide +kernel
theorem dX12_bounds_68 : decode cX12_bounds 68 = .ok (.imul, 1) := by decide +kernel
theorem dX12_bounds_69 : decode cX12_bounds 69 = .ok (.iload_n 2, 1) := by decide +kernel
theorem dX12_bounds_70 : decode cX12_bounds 70 = .ok (.iadd, 1) := by decide +kernel
theorem dX12_bounds_71 : decode cX12_bounds 71 = .ok (.laload, 1) := by decide +kernel
theorem dX12_bounds_72 : decode cX12_bounds 72 = .ok (.goto 6, 3) := by decide +kernel
theorem dX12_bounds_75 : decode cX12_bounds 75 = .ok (.ldc2_w 137, 3) := by decide +kernel
theorem dX12_bounds_78 : decode cX12_bounds 78 = .ok (.land, 1) := by decide +kernel
theorem dX12_bounds_79 : decode cX12_bounds 79 = .ok (.lastore, 1) := by decide +kernel
theorem dX12_bounds_80 : decode cX12_bounds 80 = .ok (.aload_n 0, 1) := by decide +kernel
theorem dX12_bounds_81 : decode cX12_bounds 81 = .ok (.getfield 36, 3) := by decide +kernel
theorem dX12_bounds_84 : decode cX12_bounds 84 = .ok (.iload_n 2, 1) := by decide +kernel
theorem dX12_bounds_85 : decode cX12_bounds 85 = .ok (.dup2, 1) := by decide +kernel
theorem dX12_bounds_86 : decode cX12_bounds 86 = .ok (.laload, 1) := by decide +kernel
theorem dX12_bounds_87 : decode cX12_bounds 87 = .ok (.aload_n 0, 1) := by decide +kernel
theorem dX12_bounds_88 : decode cX12_bounds 88 = .ok (.getfield 17, 3) := by decide +kernel
theorem dX12_bounds_91 : decode cX12_bounds 91 = .ok (.bipush 6, 2) := by decide +kernel
theorem dX12_bounds_93 : decode cX12_bounds 93 = .ok (.iload_n 3, 1) := by decide +kernel
theorem dX12_bounds_94 : decode cX12_bounds 94 = .ok (.imul, 1) := by decide +kernel
theorem dX12_bounds_95 : decode cX12_bounds 95 = .ok (.iconst 2, 1) := by decide +kernel
theorem dX12_bounds_96 : decode cX12_bounds 96 = .ok (.iadd, 1) := by decide +kernel
theorem dX12_bounds_97 : decode cX12_bounds 97 = .ok (.iaload, 1) := by decide +kernel
theorem dX12_bounds_98 : decode cX12_bounds 98 = .ok (.iconst 2, 1) := by decide +kernel
theorem dX12_bounds_99 : decode cX12_bounds 99 = .ok (.if_icmp .ne 16, 3) := by decide +kernel
theorem dX12_bounds_102 : decode cX12_bounds 102 = .ok (.aload_n 0, 1) := by decide +kernel
theorem dX12_bounds_103 : decode cX12_bounds 103 = .ok (.getfield 26, 3) := by decide +kernel
theorem dX12_bounds_106 : decode cX12_bounds 106 = .ok (.iconst 4, 1) := by decide +kernel
theorem dX12_bounds_107 : decode cX12_bounds 107 = .ok (.iload_n 3, 1) := by decide +kernel
theorem dX12_bounds_108 : decode cX12_bounds 108 = .ok (.imul, 1) := by decide +kernel
theorem dX12_bounds_109 : decode cX12_bounds 109 = .ok (.iload_n 2, 1) := by decide +kernel
theorem dX12_bounds_110 : decode cX12_bounds 110 = .ok (.iadd, 1) := by decide +kernel
theorem dX12_bounds_111 : decode cX12_bounds 111 = .ok (.laload, 1) := by decide +kernel
theorem dX12_bounds_112 : decode cX12_bounds 112 = .ok (.goto 6, 3) := by decide +kernel
theorem dX12_bounds_115 : decode cX12_bounds 115 = .ok (.ldc2_w 137, 3) := by decide +kernel
theorem dX12_bounds_118 : decode cX12_bounds 118 = .ok (.land, 1) := by decide +kernel
theorem dX12_bounds_119 : decode cX12_bounds 119 = .ok (.lastore, 1) := by decide +kernel
theorem dX12_bounds_120 : decode cX12_bounds 120 = .ok (.iinc 3 1, 3) := by decide +kernel
theorem dX12_bounds_123 : decode cX12_bounds 123 = .ok (.goto (-91), 3) := by decide +kernel
theorem dX12_bounds_126 : decode cX12_bounds 126 = .ok (.iinc 2 1, 3) := by decide +kernel
theorem dX12_bounds_129 : decode cX12_bounds 129 = .ok (.goto (-122), 3) := by decide +kernel
theorem dX12_bounds_132 : decode cX12_bounds 132 = .ok (.aload_n 0, 1) := by decide +kernel
theorem dX12_bounds_133 : decode cX12_bounds 133 = .ok (.getfield 33, 3) := by decide +kernel
theorem dX12_bounds_136 : decode cX12_bounds 136 = .ok (.aload_n 0, 1) := by decide +kernel
theorem dX12_bounds_137 : decode cX12_bounds 137 = .ok (.getfield 39, 3) := by decide +kernel
theorem dX12_bounds_140 : decode cX12_bounds 140 = .ok (.iload_n 1, 1) := by decide +kernel
theorem dX12_bounds_141 : decode cX12_bounds 141 = .ok (.invokestatic 139, 3) := by decide +kernel
theorem dX12_bounds_144 : decode cX12_bounds 144 = .ok (.aload_n 0, 1) := by decide +kernel
theorem dX12_bounds_145 : decode cX12_bounds 145 = .ok (.getfield 36, 3) := by decide +kernel
theorem dX12_bounds_148 : decode cX12_bounds 148 = .ok (.aload_n 0, 1) := by decide +kernel
theorem dX12_bounds_149 : decode cX12_bounds 149 = .ok (.getfield 42, 3) := by decide +kernel
theorem dX12_bounds_152 : decode cX12_bounds 152 = .ok (.iload_n 1, 1) := by decide +kernel
theorem dX12_bounds_153 : decode cX12_bounds 153 = .ok (.invokestatic 139, 3) := by decide +kernel
theorem dX12_bounds_156 : decode cX12_bounds 156 = .ok (.iconst 0, 1) := by decide +kernel
theorem dX12_bounds_157 : decode cX12_bounds 157 = .ok (.istore_n 2, 1) := by decide +kernel
theorem dX12_bounds_158 : decode cX12_bounds 158 = .ok (.iload_n 2, 1) := by decide +kernel
theorem dX12_bounds_159 : decode cX12_bounds 159 = .ok (.iconst 4, 1) := by decide +kernel
theorem dX12_bounds_160 : decode cX12_bounds 160 = .ok (.if_icmp .ge 25, 3) := by decide +kernel
theorem dX12_bounds_163 : decode cX12_bounds 163 = .ok (.aload_n 0, 1) := by decide +kernel
theorem dX12_bounds_164 : decode cX12_bounds 164 = .ok (.getfield 42, 3) := by decide +kernel
theorem dX12_bounds_167 : decode cX12_bounds 167 = .ok (.iload_n 2, 1) := by decide +kernel
theorem dX12_bounds_168 : decode cX12_bounds 168 = .ok (.aload_n 0, 1) := by decide +kernel
theorem dX12_bounds_169 : decode cX12_bounds 169 = .ok (.getfield 42, 3) := by decide +kernel
theorem dX12_bounds_172 : decode cX12_bounds 172 = .ok (.iload_n 2, 1) := by decide +kernel
theorem dX12_bounds_173 : decode cX12_bounds 173 = .ok (.laload, 1) := by decide +kernel
theorem dX12_bounds_174 : decode cX12_bounds 174 = .ok (.ldc2_w 137, 3) := by decide +kernel
theorem dX12_bounds_177 : decode cX12_bounds 177 = .ok (.lxor, 1) := by decide +kernel
theorem dX12_bounds_178 : decode cX12_bounds 178 = .ok (.lastore, 1) := by decide +kernel
theorem dX12_bounds_179 : decode cX12_bounds 179 = .ok (.iinc 2 1, 3) := by decide +kernel
theorem dX12_bounds_182 : decode cX12_bounds 182 = .ok (.goto (-24), 3) := by decide +kernel
theorem dX12_bounds_185 : decode cX12_bounds 185 = .ok (.return_, 1) := by decide +kernel
theorem dX12_takes_0 : decode cX12_takes 0 = .ok (.aload_n 0, 1) := by decide +kernel
theorem dX12_takes_1 : decode cX12_takes 1 = .ok (.invokevirtual 154, 3) := by decide +kernel
theorem dX12_takes_4 : decode cX12_takes 4 = .ok (.istore_n 3, 1) := by decide +kernel
theorem dX12_takes_5 : decode cX12_takes 5 = .ok (.iconst 0, 1) := by decide +kernel
theorem dX12_takes_6 : decode cX12_takes 6 = .ok (.istore 4, 2) := by decide +kernel
theorem dX12_takes_8 : decode cX12_takes 8 = .ok (.iload 4, 2) := by decide +kernel
theorem dX12_takes_10 : decode cX12_takes 10 = .ok (.iconst 4, 1) := by decide +kernel
theorem dX12_takes_11 : decode cX12_takes 11 = .ok (.if_icmp .ge 85, 3) := by decide +kernel
theorem dX12_takes_14 : decode cX12_takes 14 = .ok (.aload_n 2, 1) := by decide +kernel
theorem dX12_takes_15 : decode cX12_takes 15 = .ok (.iload 4, 2) := by decide +kernel
theorem dX12_takes_17 : decode cX12_takes 17 = .ok (.iload_n 1, 1) := by decide +kernel
theorem dX12_takes_18 : decode cX12_takes 18 = .ok (.iconst 3, 1) := by decide +kernel
theorem dX12_takes_19 : decode cX12_takes 19 = .ok (.if_icmp .ne 13, 3) := by decide +kernel
theorem dX12_takes_22 : decode cX12_takes 22 = .ok (.aload_n 0, 1) := by decide +kernel
theorem dX12_takes_23 : decode cX12_takes 23 = .ok (.getfield 39, 3) := by decide +kernel
theorem dX12_takes_26 : decode cX12_takes 26 = .ok (.iload 4, 2) := by decide +kernel
theorem dX12_takes_28 : decode cX12_takes 28 = .ok (.laload, 1) := by decide +kernel
theorem dX12_takes_29 : decode cX12_takes 29 = .ok (.goto 60, 3) := by decide +kernel
theorem dX12_takes_32 : decode cX12_takes 32 = .ok (.iload_n 1, 1) := by decide +kernel
theorem dX12_takes_33 : decode cX12_takes 33 = .ok (.iconst 4, 1) := by decide +kernel
theorem dX12_takes_34 : decode cX12_takes 34 = .ok (.if_icmp .ne 13, 3) := by decide +kernel
theorem dX12_takes_37 : decode cX12_takes 37 = .ok (.aload_n 0, 1) := by decide +kernel
theorem dX12_takes_38 : decode cX12_takes 38 = .ok (.getfield 42, 3) := by decide +kernel
theorem dX12_takes_41 : decode cX12_takes 41 = .ok (.iload 4, 2) := by decide +kernel
theorem dX12_takes_43 : decode cX12_takes 43 = .ok (.laload, 1) := by decide +kernel
theorem dX12_takes_44 : decode cX12_takes 44 = .ok (.goto 45, 3) := by decide +kernel
theorem dX12_takes_47 : decode cX12_takes 47 = .ok (.iload_n 1, 1) := by decide +kernel
theorem dX12_takes_48 : decode cX12_takes 48 = .ok (.iconst 5, 1) := by decide +kernel
theorem dX12_takes_49 : decode cX12_takes 49 = .ok (.if_icmp .ne 13, 3) := by decide +kernel
theorem dX12_takes_52 : decode cX12_takes 52 = .ok (.aload_n 0, 1) := by decide +kernel
theorem dX12_takes_53 : decode cX12_takes 53 = .ok (.getfield 45, 3) := by decide +kernel
theorem dX12_takes_56 : decode cX12_takes 56 = .ok (.iload 4, 2) := by decide +kernel
theorem dX12_takes_58 : decode cX12_takes 58 = .ok (.laload, 1) := by decide +kernel
theorem dX12_takes_59 : decode cX12_takes 59 = .ok (.goto 30, 3) := by decide +kernel
theorem dX12_takes_62 : decode cX12_takes 62 = .ok (.iload_n 3, 1) := by decide +kernel
theorem dX12_takes_63 : decode cX12_takes 63 = .ok (.bipush (-9), 2) := by decide +kernel
theorem dX12_takes_65 : decode cX12_takes 65 = .ok (.if_icmp .ne 7, 3) := by decide +kernel
theorem dX12_takes_68 : decode cX12_takes 68 = .ok (.lconst 0, 1) := by decide +kernel
theorem dX12_takes_69 : decode cX12_takes 69 = .ok (.goto 20, 3) := by decide +kernel
theorem dX12_takes_72 : decode cX12_takes 72 = .ok (.aload_n 0, 1) := by decide +kernel
theorem dX12_takes_73 : decode cX12_takes 73 = .ok (.getfield 30, 3) := by decide +kernel
theorem dX12_takes_76 : decode cX12_takes 76 = .ok (.sipush 160, 3) := by decide +kernel
theorem dX12_takes_79 : decode cX12_takes 79 = .ok (.iload_n 1, 1) := by decide +kernel
theorem dX12_takes_80 : decode cX12_takes 80 = .ok (.imul, 1) := by decide +kernel
theorem dX12_takes_81 : decode cX12_takes 81 = .ok (.iconst 4, 1) := by decide +kernel
theorem dX12_takes_82 : decode cX12_takes 82 = .ok (.iload_n 3, 1) := by decide +kernel
theorem dX12_takes_83 : decode cX12_takes 83 = .ok (.imul, 1) := by decide +kernel
theorem dX12_takes_84 : decode cX12_takes 84 = .ok (.iadd, 1) := by decide +kernel
theorem dX12_takes_85 : decode cX12_takes 85 = .ok (.iload 4, 2) := by decide +kernel
theorem dX12_takes_87 : decode cX12_takes 87 = .ok (.iadd, 1) := by decide +kernel
theorem dX12_takes_88 : decode cX12_takes 88 = .ok (.laload, 1) := by decide +kernel
theorem dX12_takes_89 : decode cX12_takes 89 = .ok (.lastore, 1) := by decide +kernel
theorem dX12_takes_90 : decode cX12_takes 90 = .ok (.iinc 4 1, 3) := by decide +kernel
theorem dX12_takes_93 : decode cX12_takes 93 = .ok (.goto (-85), 3) := by decide +kernel
theorem dX12_takes_96 : decode cX12_takes 96 = .ok (.iload_n 1, 1) := by decide +kernel
theorem dX12_takes_97 : decode cX12_takes 97 = .ok (.iconst 2, 1) := by decide +kernel
theorem dX12_takes_98 : decode cX12_takes 98 = .ok (.if_icmp .gt 9, 3) := by decide +kernel
theorem dX12_takes_101 : decode cX12_takes 101 = .ok (.iload_n 3, 1) := by decide +kernel
theorem dX12_takes_102 : decode cX12_takes 102 = .ok (.bipush (-9), 2) := by decide +kernel
theorem dX12_takes_104 : decode cX12_takes 104 = .ok (.if_icmp .eq 7, 3) := by decide +kernel
theorem dX12_takes_107 : decode cX12_takes 107 = .ok (.iconst 1, 1) := by decide +kernel
theorem dX12_takes_108 : decode cX12_takes 108 = .ok (.goto 4, 3) := by decide +kernel
theorem dX12_takes_111 : decode cX12_takes 111 = .ok (.iconst 0, 1) := by decide +kernel
theorem dX12_takes_112 : decode cX12_takes 112 = .ok (.ireturn, 1) := by decide +kernel
set_option maxRecDepth 20000 in
set_option maxHeartbeats 1000000 in
theorem lp_X12_holding_2 {xs : Nat → Int32} {L d : Nat} {Q : ev_Q} {th : Int32} {tr : Int64} {ty nx tk pl va fa ss wg : Int32} {c m : Nat} {i : Nat} {h0 : ev_H} (h5 : h0 420 = c420 th tr ty nx tk pl va fa (nI c) (nI m) ss wg) (hc : c ≤ 16) (hm : m ≤ 24) (hi : i < 40) : ∀ (n k : Nat), k + n = 4 → ∀ (h : ev_H) (hS : SH h) (hF : KM [425] h0 h)  (hK : ∀ (h : ev_H) (hS : SH h) (hF : KM [425] h0 h) (kx : Int32) , EV xs L (d + 1) 0 0 M_X12_holding 434 h 24 [some (.ref 420), some (.int (nI i)), some (.int kx)] [] Q), EV xs L (d + 1) 0 0 M_X12_holding 434 h 2 [some (.ref 420), some (.int (nI i)), some (.int (nI k))] [] Q := by
  intro n
  induction n with
  | zero =>
    intro k hk h hS hF  hK
    refine r_iload_n rfl dX12_holding_2 rfl ?_
    refine r_iconst (v := 4) rfl dX12_holding_3 (by decide) ?_
    refine r_icmp_ge (tgt := 24) rfl rfl dX12_holding_4 (fun _ => ?_) (fun zc => absurd (show 4 ≤ nI k from nI_le (a := 4) (b := k) (by omega) (by omega)) zc)
    exact hK h hS hF (nI k) 
  | succ n ih =>
    intro k hk h hS hF  hK
    refine r_iload_n rfl dX12_holding_2 rfl ?_
    refine r_iconst (v := 4) rfl dX12_holding_3 (by decide) ?_
    refine r_icmp_ge (tgt := 24) rfl rfl dX12_holding_4 (fun zc => absurd zc (show ¬ 4 ≤ nI k from nI_ge (a := k) (b := 4) (by omega) (by omega))) (fun _ => ?_)
    refine r_aload_n rfl dX12_holding_7 rfl ?_
    refine r_getv 16 rfl dX12_holding_8 (show 2 ≤ 420 ∧ 420 < 434 by decide) ((hF 420 (by decide)).trans h5) fl_X12_26 rfl ?_
    refine r_iconst (v := 4) rfl dX12_holding_11 (by decide) ?_
    refine r_iload_n rfl dX12_holding_12 rfl ?_
    refine r_imul rfl dX12_holding_13 ?_
    refine r_eqi (y := nI (4 * i)) (show 4 * (nI i) = nI (4 * i) from pk_mul 4 i) ?_
    refine r_iload_n rfl dX12_holding_14 rfl ?_
    refine r_iadd rfl dX12_holding_15 ?_
    refine r_eqi (y := nI ((4 * i) + k)) (show (nI (4 * i)) + (nI k) = nI ((4 * i) + k) from nI_add (4 * i) k) ?_
    refine r_lconst (v := 0) rfl dX12_holding_16 (by decide) ?_
    obtain ⟨g151, f152⟩ := hS.la LA_425
    refine m_last rfl dX12_holding_17 (show 2 ≤ 425 ∧ 425 < 434 by decide) hS hF (by decide) f152 (vp_in_nI (n := (4 * i) + k) (by omega) (by omega)) (fun h153 hS154 hF155 hN156 => ?_)
    refine r_iinc (y := nI (k + 1)) (ls' := [some (.ref 420), some (.int (nI i)), some (.int (nI (k + 1)))]) rfl dX12_holding_18 rfl (nI_1 k) (Nat.le_of_ble_eq_true rfl) rfl ?_
    refine r_goto (pc' := 2) rfl dX12_holding_21 ?_
    exact ih (k + 1) (by omega) h153 hS154 hF155  hK
set_option maxRecDepth 20000 in
set_option maxHeartbeats 1000000 in
theorem lp_X12_holding_26 {xs : Nat → Int32} {L d : Nat} {Q : ev_Q} {th : Int32} {tr : Int64} {ty nx tk pl va fa ss wg : Int32} {c m : Nat} {i : Nat} {h0 : ev_H} (h5 : h0 420 = c420 th tr ty nx tk pl va fa (nI c) (nI m) ss wg) (hc : c ≤ 16) (hm : m ≤ 24) (hi : i < 40) : ∀ (n k : Nat), k + n = 256 → ∀ (h : ev_H) (hS : SH h) (hF : KM [425] h0 h)  (hK : ∀ (h : ev_H) (hS : SH h) (hF : KM [425] h0 h) (kx : Int32) , EV xs L (d + 1) 0 0 M_X12_holding 434 h 92 [some (.ref 420), some (.int (nI i)), some (.int kx)] [] Q), EV xs L (d + 1) 0 0 M_X12_holding 434 h 26 [some (.ref 420), some (.int (nI i)), some (.int (nI k))] [] Q := by
  intro n
  induction n with
  | zero =>
    intro k hk h hS hF  hK
    refine r_iload_n rfl dX12_holding_26 rfl ?_
    refine r_sipush (v := 256) rfl dX12_holding_27 (by decide) ?_
    refine r_icmp_ge (tgt := 92) rfl rfl dX12_holding_30 (fun _ => ?_) (fun zc => absurd (show 256 ≤ nI k from nI_le (a := 256) (b := k) (by omega) (by omega)) zc)
    exact hK h hS hF (nI k) 
  | succ n ih =>
    intro k hk h hS hF  hK
    refine r_iload_n rfl dX12_holding_26 rfl ?_
    refine r_sipush (v := 256) rfl dX12_holding_27 (by decide) ?_
    refine r_icmp_ge (tgt := 92) rfl rfl dX12_holding_30 (fun zc => absurd zc (show ¬ 256 ≤ nI k from nI_ge (a := k) (b := 256) (by omega) (by omega))) (fun _ => ?_)
    refine r_aload_n rfl dX12_holding_33 rfl ?_
    refine r_getv 16 rfl dX12_holding_34 (show 2 ≤ 420 ∧ 420 < 434 by decide) ((hF 420 (by decide)).trans h5) fl_X12_26 rfl ?_
    refine r_iconst (v := 4) rfl dX12_holding_37 (by decide) ?_
    refine r_iload_n rfl dX12_holding_38 rfl ?_
    refine r_imul rfl dX12_holding_39 ?_
    refine r_eqi (y := nI (4 * i)) (show 4 * (nI i) = nI (4 * i) from pk_mul 4 i) ?_
    refine r_iload_n rfl dX12_holding_40 rfl ?_
    refine r_bipush (v := 6) rfl dX12_holding_41 (by decide) ?_
    refine r_ishr rfl dX12_holding_43 ?_
    refine r_eqi (y := nI (k / 64)) (show (nI k) >>> (6 &&& 31) = nI (k / 64) from pk_shrN (n := k) (by omega) ((6 : Int32) &&& 31) 6 (by decide)) ?_
    refine r_iadd rfl dX12_holding_44 ?_
    refine r_eqi (y := nI ((4 * i) + (k / 64))) (show (nI (4 * i)) + (nI (k / 64)) = nI ((4 * i) + (k / 64)) from nI_add (4 * i) (k / 64)) ?_
    refine r_dup2 rfl dX12_holding_45 (by intro q; cases q) (by intro q; cases q) ?_
    obtain ⟨g156, f157⟩ := hS.la LA_425
    refine r_laldv (jn := (4 * i) + (k / 64)) (v := g156 ((4 * i) + (k / 64))) rfl dX12_holding_46 (show 2 ≤ 425 ∧ 425 < 434 by decide) f157 (vp_in_nI (n := (4 * i) + (k / 64)) (by omega) (by omega)) (nI_clamp (n := (4 * i) + (k / 64)) (by omega)) rfl ?_
    refine r_aload_n rfl dX12_holding_47 rfl ?_
    refine r_getv 13 rfl dX12_holding_48 (show 2 ≤ 420 ∧ 420 < 434 by decide) ((hF 420 (by decide)).trans h5) fl_X12_17 rfl ?_
    refine r_bipush (v := 6) rfl dX12_holding_51 (by decide) ?_
    refine r_iload_n rfl dX12_holding_53 rfl ?_
    refine r_imul rfl dX12_holding_54 ?_
    refine r_eqi (y := nI (6 * i)) (show 6 * (nI i) = nI (6 * i) from pk_mul 6 i) ?_
    obtain ⟨g158, f159⟩ := hS.li LI_422
    refine r_ialdv (jn := 6 * i) (v := g158 (6 * i)) rfl dX12_holding_55 (show 2 ≤ 422 ∧ 422 < 434 by decide) f159 (vp_in_nI (n := 6 * i) (by omega) (by omega)) (nI_clamp (n := 6 * i) (by omega)) rfl ?_
    refine r_aload_n rfl dX12_holding_56 rfl ?_
    refine r_getv 13 rfl dX12_holding_57 (show 2 ≤ 420 ∧ 420 < 434 by decide) ((hF 420 (by decide)).trans h5) fl_X12_17 rfl ?_
    refine r_bipush (v := 6) rfl dX12_holding_60 (by decide) ?_
    refine r_iload_n rfl dX12_holding_62 rfl ?_
    refine r_imul rfl dX12_holding_63 ?_
    refine r_eqi (y := nI (6 * i)) (show 6 * (nI i) = nI (6 * i) from pk_mul 6 i) ?_
    refine r_iconst (v := 1) rfl dX12_holding_64 (by decide) ?_
    refine r_iadd rfl dX12_holding_65 ?_
    refine r_eqi (y := nI ((6 * i) + 1)) (show (nI (6 * i)) + 1 = nI ((6 * i) + 1) from nI_add (6 * i) 1) ?_
    obtain ⟨g160, f161⟩ := hS.li LI_422
    refine r_ialdv (jn := (6 * i) + 1) (v := g160 ((6 * i) + 1)) rfl dX12_holding_66 (show 2 ≤ 422 ∧ 422 < 434 by decide) f161 (vp_in_nI (n := (6 * i) + 1) (by omega) (by omega)) (nI_clamp (n := (6 * i) + 1) (by omega)) rfl ?_
    refine r_iload_n rfl dX12_holding_67 rfl ?_
    refine cl_X12_127 rfl rfl dX12_holding_68 (Nat.le_of_ble_eq_true rfl) (s_X12_isSo hS) ?_
    rintro _ h162 _ ⟨rfl, e163, x164, z165, rfl⟩
    replace e163 := e163.symm
    subst e163
    have J166 : ∀ v167 : Int64, EV xs L (d + 1) 0 0 M_X12_holding 434 h 84 [some (.ref 420), some (.int (nI i)), some (.int (nI k))] (.long v167 :: .long (g156 ((4 * i) + (k / 64))) :: .int (nI ((4 * i) + (k / 64))) :: .ref 425 :: []) Q := by
      intro v167
      refine r_lor rfl dX12_holding_84 ?_
      obtain ⟨g168, f169⟩ := hS.la LA_425
      refine m_last rfl dX12_holding_85 (show 2 ≤ 425 ∧ 425 < 434 by decide) hS hF (by decide) f169 (vp_in_nI (n := (4 * i) + (k / 64)) (by omega) (by omega)) (fun h170 hS171 hF172 hN173 => ?_)
      refine r_iinc (y := nI (k + 1)) (ls' := [some (.ref 420), some (.int (nI i)), some (.int (nI (k + 1)))]) rfl dX12_holding_86 rfl (nI_1 k) (Nat.le_of_ble_eq_true rfl) rfl ?_
      refine r_goto (pc' := 26) rfl dX12_holding_89 ?_
      exact ih (k + 1) (by omega) h170 hS171 hF172  hK
    refine r_if_eq (tgt := 83) rfl rfl dX12_holding_71 (fun c174 => ?_) (fun c174 => ?_)
    · refine r_lconst (v := 0) rfl dX12_holding_83 (by decide) ?_
      exact J166 _
    · refine r_lconst (v := 1) rfl dX12_holding_74 (by decide) ?_
      refine r_iload_n rfl dX12_holding_75 rfl ?_
      refine r_bipush (v := 63) rfl dX12_holding_76 (by decide) ?_
      refine r_iand rfl dX12_holding_78 ?_
      refine r_eqi (y := nI (k % 64)) (show (nI k) &&& 63 = nI (k % 64) from pk_andN (n := k) (by omega) (m := 63) 6 (by decide)) ?_
      refine r_lshl rfl dX12_holding_79 ?_
      refine r_goto (pc' := 84) rfl dX12_holding_80 ?_
      exact J166 _
set_option maxRecDepth 20000 in
set_option maxHeartbeats 1000000 in
theorem s_X12_holding {xs : Nat → Int32} {L d : Nat} {h : ev_H} {th : Int32} {tr : Int64} {ty nx tk pl va fa ss wg : Int32} {c m : Nat} {i : Nat} (hS : SH h) (h5 : h 420 = c420 th tr ty nx tk pl va fa (nI c) (nI m) ss wg) (hc : c ≤ 16) (hm : m ≤ 24) (hi : i < 40) : EV xs L (d + 1) 0 0 M_X12_holding 434 h 0 [some (.ref 420), some (.int (nI i)), none] [] (fun sz' h' r => sz' = 434 ∧ SH h' ∧ KM [425] h h' ∧ r = []) := by
  refine r_iconst (v := 0) rfl dX12_holding_0 (by decide) ?_
  refine r_istore_n (ls' := [some (.ref 420), some (.int (nI i)), some (.int 0)]) rfl dX12_holding_1 (Nat.le_of_ble_eq_true rfl) rfl ?_
  refine lp_X12_holding_2 (((KM_rf (Mod := [425]) h) 420 (by decide)).trans h5) hc hm hi (4 - 0) 0 (by omega) h hS (KM_rf _)  ?_
  intro h52 hS53 hK54 kx51 
  have hF55 := KM_tr (KM_rf (Mod := [425]) h) hK54
  refine r_iconst (v := 0) rfl dX12_holding_24 (by decide) ?_
  refine r_istore_n (ls' := [some (.ref 420), some (.int (nI i)), some (.int 0)]) rfl dX12_holding_25 (Nat.le_of_ble_eq_true rfl) rfl ?_
  refine lp_X12_holding_26 ((hF55 420 (by decide)).trans h5) hc hm hi (256 - 0) 0 (by omega) h52 hS53 (KM_rf _)  ?_
  intro h57 hS58 hK59 kx56 
  have hF60 := KM_tr hF55 hK59
  exact r_ret dX12_holding_92 (rt_v rfl) ⟨rfl, hS58, hF60, rfl⟩
set_option maxRecDepth 20000 in
set_option maxHeartbeats 1000000 in
theorem lp_X12_beginning_78 {xs : Nat → Int32} {L d : Nat} {Q : ev_Q} {th : Int32} {tr : Int64} {ty nx tk pl va fa ss wg : Int32} {c m : Nat} {i : Nat} {xf2 : Int32} {xf3 : Int32} {xf4 : Int32} {k : Nat} {uf8 : Option Value} {uf9 : Option Value} {h0 : ev_H} (h5 : h0 420 = c420 th tr ty nx tk pl va fa (nI c) (nI m) ss wg) (hc : c ≤ 16) (hm : m ≤ 24) (hi : i < 40) (hb_k : k < 3) : ∀ (n ka : Nat), ka + n = 4 → ∀ (h : ev_H) (hS : SH h) (hF : KM [426] h0 h)  (hK : ∀ (h : ev_H) (hS : SH h) (hF : KM [426] h0 h) (kx : Int32) , EV xs L (d + 2) 0 0 M_X12_beginning 434 h 112 [some (.ref 420), some (.int (nI i)), some (.int xf2), some (.int xf3), some (.int xf4), some (.int (nI k)), some (.int (nI ((160 * k) + (4 * i)))), some (.int kx), uf8, uf9] [] Q), EV xs L (d + 2) 0 0 M_X12_beginning 434 h 78 [some (.ref 420), some (.int (nI i)), some (.int xf2), some (.int xf3), some (.int xf4), some (.int (nI k)), some (.int (nI ((160 * k) + (4 * i)))), some (.int (nI ka)), uf8, uf9] [] Q := by
  intro n
  induction n with
  | zero =>
    intro ka hk h hS hF  hK
    refine r_iload rfl dX12_beginning_78 rfl ?_
    refine r_iconst (v := 4) rfl dX12_beginning_80 (by decide) ?_
    refine r_icmp_ge (tgt := 112) rfl rfl dX12_beginning_81 (fun _ => ?_) (fun zc => absurd (show 4 ≤ nI ka from nI_le (a := 4) (b := ka) (by omega) (by omega)) zc)
    exact hK h hS hF (nI ka) 
  | succ n ih =>
    intro ka hk h hS hF  hK
    refine r_iload rfl dX12_beginning_78 rfl ?_
    refine r_iconst (v := 4) rfl dX12_beginning_80 (by decide) ?_
    refine r_icmp_ge (tgt := 112) rfl rfl dX12_beginning_81 (fun zc => absurd zc (show ¬ 4 ≤ nI ka from nI_ge (a := ka) (b := 4) (by omega) (by omega))) (fun _ => ?_)
    refine r_aload_n rfl dX12_beginning_84 rfl ?_
    refine r_getv 17 rfl dX12_beginning_85 (show 2 ≤ 420 ∧ 420 < 434 by decide) ((hF 420 (by decide)).trans h5) fl_X12_30 rfl ?_
    refine r_iload rfl dX12_beginning_88 rfl ?_
    refine r_iload rfl dX12_beginning_90 rfl ?_
    refine r_iadd rfl dX12_beginning_92 ?_
    refine r_eqi (y := nI (((160 * k) + (4 * i)) + ka)) (show (nI ((160 * k) + (4 * i))) + (nI ka) = nI (((160 * k) + (4 * i)) + ka) from nI_add ((160 * k) + (4 * i)) ka) ?_
    refine r_iload rfl dX12_beginning_93 rfl ?_
    have J269 : ∀ v270 : Int64, EV xs L (d + 2) 0 0 M_X12_beginning 434 h 105 [some (.ref 420), some (.int (nI i)), some (.int xf2), some (.int xf3), some (.int xf4), some (.int (nI k)), some (.int (nI ((160 * k) + (4 * i)))), some (.int (nI ka)), uf8, uf9] (.long v270 :: .int (nI (((160 * k) + (4 * i)) + ka)) :: .ref 426 :: []) Q := by
      intro v270
      obtain ⟨g271, f272⟩ := hS.la LA_426
      refine m_last rfl dX12_beginning_105 (show 2 ≤ 426 ∧ 426 < 434 by decide) hS hF (by decide) f272 (vp_in_nI (n := ((160 * k) + (4 * i)) + ka) (by omega) (by omega)) (fun h273 hS274 hF275 hN276 => ?_)
      refine r_iinc (y := nI (ka + 1)) (ls' := [some (.ref 420), some (.int (nI i)), some (.int xf2), some (.int xf3), some (.int xf4), some (.int (nI k)), some (.int (nI ((160 * k) + (4 * i)))), some (.int (nI (ka + 1))), uf8, uf9]) rfl dX12_beginning_106 rfl (nI_1 ka) (Nat.le_of_ble_eq_true rfl) rfl ?_
      refine r_goto (pc' := 78) rfl dX12_beginning_109 ?_
      exact ih (ka + 1) (by omega) h273 hS274 hF275  hK
    refine r_if_eq (tgt := 102) rfl rfl dX12_beginning_95 (fun c277 => ?_) (fun c277 => ?_)
    · refine r_ldc2 (v := (-1)) rfl dX12_beginning_102 lc_X12_137 ?_
      exact J269 _
    · refine r_lconst (v := 0) rfl dX12_beginning_98 (by decide) ?_
      refine r_goto (pc' := 105) rfl dX12_beginning_99 ?_
      exact J269 _
set_option maxRecDepth 20000 in
set_option maxHeartbeats 1000000 in
theorem lp_X12_beginning_115 {xs : Nat → Int32} {L d : Nat} {Q : ev_Q} {th : Int32} {tr : Int64} {ty nx tk pl va fa ss wg : Int32} {c m : Nat} {i : Nat} {xf2 : Int32} {xf3 : Int32} {xf4 : Int32} {k : Nat} {h0 : ev_H} (h5 : h0 420 = c420 th tr ty nx tk pl va fa (nI c) (nI m) ss wg) (hc : c ≤ 16) (hm : m ≤ 24) (hi : i < 40) (hb_k : k < 3) : ∀ (n ka : Nat), ka + n = 256 → ∀ (h : ev_H) (hS : SH h) (hF : KM [426] h0 h) (u8 : Option Value) (u8b : Option Value) (hK : ∀ (h : ev_H) (hS : SH h) (hF : KM [426] h0 h) (kx : Int32) (u8 : Option Value) (u8b : Option Value), EV xs L (d + 2) 0 0 M_X12_beginning 434 h 220 [some (.ref 420), some (.int (nI i)), some (.int xf2), some (.int xf3), some (.int xf4), some (.int (nI k)), some (.int (nI ((160 * k) + (4 * i)))), some (.int kx), u8, u8b] [] Q), EV xs L (d + 2) 0 0 M_X12_beginning 434 h 115 [some (.ref 420), some (.int (nI i)), some (.int xf2), some (.int xf3), some (.int xf4), some (.int (nI k)), some (.int (nI ((160 * k) + (4 * i)))), some (.int (nI ka)), u8, u8b] [] Q := by
  intro n
  induction n with
  | zero =>
    intro ka hk h hS hF u8 u8b hK
    refine r_iload rfl dX12_beginning_115 rfl ?_
    refine r_sipush (v := 256) rfl dX12_beginning_117 (by decide) ?_
    refine r_icmp_ge (tgt := 220) rfl rfl dX12_beginning_120 (fun _ => ?_) (fun zc => absurd (show 256 ≤ nI ka from nI_le (a := 256) (b := ka) (by omega) (by omega)) zc)
    exact hK h hS hF (nI ka) u8 u8b
  | succ n ih =>
    intro ka hk h hS hF u8 u8b hK
    refine r_iload rfl dX12_beginning_115 rfl ?_
    refine r_sipush (v := 256) rfl dX12_beginning_117 (by decide) ?_
    refine r_icmp_ge (tgt := 220) rfl rfl dX12_beginning_120 (fun zc => absurd zc (show ¬ 256 ≤ nI ka from nI_ge (a := ka) (b := 256) (by omega) (by omega))) (fun _ => ?_)
    refine r_iload rfl dX12_beginning_123 rfl ?_
    refine r_iload rfl dX12_beginning_125 rfl ?_
    refine r_if_eq (tgt := 134) rfl rfl dX12_beginning_127 (fun c274 => ?_) (fun c274 => ?_)
    · refine r_iconst (v := 1) rfl dX12_beginning_134 (by decide) ?_
      refine r_icmp_ne (tgt := 220) rfl rfl dX12_beginning_135 (fun c275 => ?_) (fun c275 => ?_)
      · have q276 : ¬ k = 1 := (not_congr (nI_eq (a := k) (b := 1)  (by omega) (by omega))).mp c275
        exact hK h hS hF (nI ka) u8 u8b
      · have q277 : k = 1 := (nI_eq (a := k) (b := 1) (by omega) (by omega)).mp c275
        refine r_lconst (v := 1) rfl dX12_beginning_138 (by decide) ?_
        refine r_iload rfl dX12_beginning_139 rfl ?_
        refine r_bipush (v := 63) rfl dX12_beginning_141 (by decide) ?_
        refine r_iand rfl dX12_beginning_143 ?_
        refine r_eqi (y := nI (ka % 64)) (show (nI ka) &&& 63 = nI (ka % 64) from pk_andN (n := ka) (by omega) (m := 63) 6 (by decide)) ?_
        refine r_lshl rfl dX12_beginning_144 ?_
        refine r_topl (fun x278 e279 => ?_)
        refine r_lstore (ls' := [some (.ref 420), some (.int (nI i)), some (.int xf2), some (.int xf3), some (.int xf4), some (.int (nI k)), some (.int (nI ((160 * k) + (4 * i)))), some (.int (nI ka)), some (.long x278), none]) rfl dX12_beginning_145 (Nat.le_of_ble_eq_true rfl) rfl ?_
        refine r_iload_n rfl dX12_beginning_147 rfl ?_
        refine r_iload_n rfl dX12_beginning_148 rfl ?_
        refine r_iload rfl dX12_beginning_149 rfl ?_
        refine cl_X12_127 rfl rfl dX12_beginning_151 (Nat.le_of_ble_eq_true rfl) (s_X12_isSo hS) ?_
        rintro _ h280 _ ⟨rfl, e281, x282, z283, rfl⟩
        replace e281 := e281.symm
        subst e281
        refine r_if_eq (tgt := 214) rfl rfl dX12_beginning_154 (fun c284 => ?_) (fun c284 => ?_)
        · refine r_iinc (y := nI (ka + 1)) (ls' := [some (.ref 420), some (.int (nI i)), some (.int xf2), some (.int xf3), some (.int xf4), some (.int (nI k)), some (.int (nI ((160 * k) + (4 * i)))), some (.int (nI (ka + 1))), some (.long x278), none]) rfl dX12_beginning_214 rfl (nI_1 ka) (Nat.le_of_ble_eq_true rfl) rfl ?_
          refine r_goto (pc' := 115) rfl dX12_beginning_217 ?_
          exact ih (ka + 1) (by omega) h hS hF (some (.long x278)) none hK
        · refine r_aload_n rfl dX12_beginning_157 rfl ?_
          refine r_getv 17 rfl dX12_beginning_158 (show 2 ≤ 420 ∧ 420 < 434 by decide) ((hF 420 (by decide)).trans h5) fl_X12_30 rfl ?_
          refine r_iload rfl dX12_beginning_161 rfl ?_
          refine r_iload rfl dX12_beginning_163 rfl ?_
          refine r_bipush (v := 6) rfl dX12_beginning_165 (by decide) ?_
          refine r_ishr rfl dX12_beginning_167 ?_
          refine r_eqi (y := nI (ka / 64)) (show (nI ka) >>> (6 &&& 31) = nI (ka / 64) from pk_shrN (n := ka) (by omega) ((6 : Int32) &&& 31) 6 (by decide)) ?_
          refine r_iadd rfl dX12_beginning_168 ?_
          refine r_eqi (y := nI (((160 * k) + (4 * i)) + (ka / 64))) (show (nI ((160 * k) + (4 * i))) + (nI (ka / 64)) = nI (((160 * k) + (4 * i)) + (ka / 64)) from nI_add ((160 * k) + (4 * i)) (ka / 64)) ?_
          refine r_iload rfl dX12_beginning_169 rfl ?_
          have J285 : ∀ v286 : Int64, EV xs L (d + 2) 0 0 M_X12_beginning 434 h 213 [some (.ref 420), some (.int (nI i)), some (.int xf2), some (.int xf3), some (.int xf4), some (.int (nI k)), some (.int (nI ((160 * k) + (4 * i)))), some (.int (nI ka)), some (.long x278), none] (.long v286 :: .int (nI (((160 * k) + (4 * i)) + (ka / 64))) :: .ref 426 :: []) Q := by
            intro v286
            obtain ⟨g287, f288⟩ := hS.la LA_426
            refine m_last rfl dX12_beginning_213 (show 2 ≤ 426 ∧ 426 < 434 by decide) hS hF (by decide) f288 (vp_in_nI (n := ((160 * k) + (4 * i)) + (ka / 64)) (by omega) (by omega)) (fun h289 hS290 hF291 hN292 => ?_)
            refine r_iinc (y := nI (ka + 1)) (ls' := [some (.ref 420), some (.int (nI i)), some (.int xf2), some (.int xf3), some (.int xf4), some (.int (nI k)), some (.int (nI ((160 * k) + (4 * i)))), some (.int (nI (ka + 1))), some (.long x278), none]) rfl dX12_beginning_214 rfl (nI_1 ka) (Nat.le_of_ble_eq_true rfl) rfl ?_
            refine r_goto (pc' := 115) rfl dX12_beginning_217 ?_
            exact ih (ka + 1) (by omega) h289 hS290 hF291 (some (.long x278)) none hK
          refine r_if_eq (tgt := 193) rfl rfl dX12_beginning_171 (fun c293 => ?_) (fun c293 => ?_)
          · refine r_aload_n rfl dX12_beginning_193 rfl ?_
            refine r_getv 17 rfl dX12_beginning_194 (show 2 ≤ 420 ∧ 420 < 434 by decide) ((hF 420 (by decide)).trans h5) fl_X12_30 rfl ?_
            refine r_iload rfl dX12_beginning_197 rfl ?_
            refine r_iload rfl dX12_beginning_199 rfl ?_
            refine r_bipush (v := 6) rfl dX12_beginning_201 (by decide) ?_
            refine r_ishr rfl dX12_beginning_203 ?_
            refine r_eqi (y := nI (ka / 64)) (show (nI ka) >>> (6 &&& 31) = nI (ka / 64) from pk_shrN (n := ka) (by omega) ((6 : Int32) &&& 31) 6 (by decide)) ?_
            refine r_iadd rfl dX12_beginning_204 ?_
            refine r_eqi (y := nI (((160 * k) + (4 * i)) + (ka / 64))) (show (nI ((160 * k) + (4 * i))) + (nI (ka / 64)) = nI (((160 * k) + (4 * i)) + (ka / 64)) from nI_add ((160 * k) + (4 * i)) (ka / 64)) ?_
            obtain ⟨g294, f295⟩ := hS.la LA_426
            refine r_laldv (jn := ((160 * k) + (4 * i)) + (ka / 64)) (v := g294 (((160 * k) + (4 * i)) + (ka / 64))) rfl dX12_beginning_205 (show 2 ≤ 426 ∧ 426 < 434 by decide) f295 (vp_in_nI (n := ((160 * k) + (4 * i)) + (ka / 64)) (by omega) (by omega)) (nI_clamp (n := ((160 * k) + (4 * i)) + (ka / 64)) (by omega)) rfl ?_
            refine r_lload rfl dX12_beginning_206 rfl ?_
            refine r_ldc2 (v := (-1)) rfl dX12_beginning_208 lc_X12_137 ?_
            refine r_lxor rfl dX12_beginning_211 ?_
            refine r_land rfl dX12_beginning_212 ?_
            exact J285 _
          · refine r_aload_n rfl dX12_beginning_174 rfl ?_
            refine r_getv 17 rfl dX12_beginning_175 (show 2 ≤ 420 ∧ 420 < 434 by decide) ((hF 420 (by decide)).trans h5) fl_X12_30 rfl ?_
            refine r_iload rfl dX12_beginning_178 rfl ?_
            refine r_iload rfl dX12_beginning_180 rfl ?_
            refine r_bipush (v := 6) rfl dX12_beginning_182 (by decide) ?_
            refine r_ishr rfl dX12_beginning_184 ?_
            refine r_eqi (y := nI (ka / 64)) (show (nI ka) >>> (6 &&& 31) = nI (ka / 64) from pk_shrN (n := ka) (by omega) ((6 : Int32) &&& 31) 6 (by decide)) ?_
            refine r_iadd rfl dX12_beginning_185 ?_
            refine r_eqi (y := nI (((160 * k) + (4 * i)) + (ka / 64))) (show (nI ((160 * k) + (4 * i))) + (nI (ka / 64)) = nI (((160 * k) + (4 * i)) + (ka / 64)) from nI_add ((160 * k) + (4 * i)) (ka / 64)) ?_
            obtain ⟨g296, f297⟩ := hS.la LA_426
            refine r_laldv (jn := ((160 * k) + (4 * i)) + (ka / 64)) (v := g296 (((160 * k) + (4 * i)) + (ka / 64))) rfl dX12_beginning_186 (show 2 ≤ 426 ∧ 426 < 434 by decide) f297 (vp_in_nI (n := ((160 * k) + (4 * i)) + (ka / 64)) (by omega) (by omega)) (nI_clamp (n := ((160 * k) + (4 * i)) + (ka / 64)) (by omega)) rfl ?_
            refine r_lload rfl dX12_beginning_187 rfl ?_
            refine r_lor rfl dX12_beginning_189 ?_
            refine r_goto (pc' := 213) rfl dX12_beginning_190 ?_
            exact J285 _
    · refine r_iconst (v := 0) rfl dX12_beginning_130 (by decide) ?_
      refine r_goto (pc' := 135) rfl dX12_beginning_131 ?_
      refine r_icmp_ne (tgt := 220) rfl rfl dX12_beginning_135 (fun c298 => ?_) (fun c298 => ?_)
      · have q299 : ¬ k = 0 := (not_congr (nI_eq (a := k) (b := 0)  (by omega) (by omega))).mp c298
        exact hK h hS hF (nI ka) u8 u8b
      · have q300 : k = 0 := (nI_eq (a := k) (b := 0) (by omega) (by omega)).mp c298
        refine r_lconst (v := 1) rfl dX12_beginning_138 (by decide) ?_
        refine r_iload rfl dX12_beginning_139 rfl ?_
        refine r_bipush (v := 63) rfl dX12_beginning_141 (by decide) ?_
        refine r_iand rfl dX12_beginning_143 ?_
        refine r_eqi (y := nI (ka % 64)) (show (nI ka) &&& 63 = nI (ka % 64) from pk_andN (n := ka) (by omega) (m := 63) 6 (by decide)) ?_
        refine r_lshl rfl dX12_beginning_144 ?_
        refine r_topl (fun x301 e302 => ?_)
        refine r_lstore (ls' := [some (.ref 420), some (.int (nI i)), some (.int xf2), some (.int xf3), some (.int xf4), some (.int (nI k)), some (.int (nI ((160 * k) + (4 * i)))), some (.int (nI ka)), some (.long x301), none]) rfl dX12_beginning_145 (Nat.le_of_ble_eq_true rfl) rfl ?_
        refine r_iload_n rfl dX12_beginning_147 rfl ?_
        refine r_iload_n rfl dX12_beginning_148 rfl ?_
        refine r_iload rfl dX12_beginning_149 rfl ?_
        refine cl_X12_127 rfl rfl dX12_beginning_151 (Nat.le_of_ble_eq_true rfl) (s_X12_isSo hS) ?_
        rintro _ h303 _ ⟨rfl, e304, x305, z306, rfl⟩
        replace e304 := e304.symm
        subst e304
        refine r_if_eq (tgt := 214) rfl rfl dX12_beginning_154 (fun c307 => ?_) (fun c307 => ?_)
        · refine r_iinc (y := nI (ka + 1)) (ls' := [some (.ref 420), some (.int (nI i)), some (.int xf2), some (.int xf3), some (.int xf4), some (.int (nI k)), some (.int (nI ((160 * k) + (4 * i)))), some (.int (nI (ka + 1))), some (.long x301), none]) rfl dX12_beginning_214 rfl (nI_1 ka) (Nat.le_of_ble_eq_true rfl) rfl ?_
          refine r_goto (pc' := 115) rfl dX12_beginning_217 ?_
          exact ih (ka + 1) (by omega) h hS hF (some (.long x301)) none hK
        · refine r_aload_n rfl dX12_beginning_157 rfl ?_
          refine r_getv 17 rfl dX12_beginning_158 (show 2 ≤ 420 ∧ 420 < 434 by decide) ((hF 420 (by decide)).trans h5) fl_X12_30 rfl ?_
          refine r_iload rfl dX12_beginning_161 rfl ?_
          refine r_iload rfl dX12_beginning_163 rfl ?_
          refine r_bipush (v := 6) rfl dX12_beginning_165 (by decide) ?_
          refine r_ishr rfl dX12_beginning_167 ?_
          refine r_eqi (y := nI (ka / 64)) (show (nI ka) >>> (6 &&& 31) = nI (ka / 64) from pk_shrN (n := ka) (by omega) ((6 : Int32) &&& 31) 6 (by decide)) ?_
          refine r_iadd rfl dX12_beginning_168 ?_
          refine r_eqi (y := nI (((160 * k) + (4 * i)) + (ka / 64))) (show (nI ((160 * k) + (4 * i))) + (nI (ka / 64)) = nI (((160 * k) + (4 * i)) + (ka / 64)) from nI_add ((160 * k) + (4 * i)) (ka / 64)) ?_
          refine r_iload rfl dX12_beginning_169 rfl ?_
          have J308 : ∀ v309 : Int64, EV xs L (d + 2) 0 0 M_X12_beginning 434 h 213 [some (.ref 420), some (.int (nI i)), some (.int xf2), some (.int xf3), some (.int xf4), some (.int (nI k)), some (.int (nI ((160 * k) + (4 * i)))), some (.int (nI ka)), some (.long x301), none] (.long v309 :: .int (nI (((160 * k) + (4 * i)) + (ka / 64))) :: .ref 426 :: []) Q := by
            intro v309
            obtain ⟨g310, f311⟩ := hS.la LA_426
            refine m_last rfl dX12_beginning_213 (show 2 ≤ 426 ∧ 426 < 434 by decide) hS hF (by decide) f311 (vp_in_nI (n := ((160 * k) + (4 * i)) + (ka / 64)) (by omega) (by omega)) (fun h312 hS313 hF314 hN315 => ?_)
            refine r_iinc (y := nI (ka + 1)) (ls' := [some (.ref 420), some (.int (nI i)), some (.int xf2), some (.int xf3), some (.int xf4), some (.int (nI k)), some (.int (nI ((160 * k) + (4 * i)))), some (.int (nI (ka + 1))), some (.long x301), none]) rfl dX12_beginning_214 rfl (nI_1 ka) (Nat.le_of_ble_eq_true rfl) rfl ?_
            refine r_goto (pc' := 115) rfl dX12_beginning_217 ?_
            exact ih (ka + 1) (by omega) h312 hS313 hF314 (some (.long x301)) none hK
          refine r_if_eq (tgt := 193) rfl rfl dX12_beginning_171 (fun c316 => ?_) (fun c316 => ?_)
          · refine r_aload_n rfl dX12_beginning_193 rfl ?_
            refine r_getv 17 rfl dX12_beginning_194 (show 2 ≤ 420 ∧ 420 < 434 by decide) ((hF 420 (by decide)).trans h5) fl_X12_30 rfl ?_
            refine r_iload rfl dX12_beginning_197 rfl ?_
            refine r_iload rfl dX12_beginning_199 rfl ?_
            refine r_bipush (v := 6) rfl dX12_beginning_201 (by decide) ?_
            refine r_ishr rfl dX12_beginning_203 ?_
            refine r_eqi (y := nI (ka / 64)) (show (nI ka) >>> (6 &&& 31) = nI (ka / 64) from pk_shrN (n := ka) (by omega) ((6 : Int32) &&& 31) 6 (by decide)) ?_
            refine r_iadd rfl dX12_beginning_204 ?_
            refine r_eqi (y := nI (((160 * k) + (4 * i)) + (ka / 64))) (show (nI ((160 * k) + (4 * i))) + (nI (ka / 64)) = nI (((160 * k) + (4 * i)) + (ka / 64)) from nI_add ((160 * k) + (4 * i)) (ka / 64)) ?_
            obtain ⟨g317, f318⟩ := hS.la LA_426
            refine r_laldv (jn := ((160 * k) + (4 * i)) + (ka / 64)) (v := g317 (((160 * k) + (4 * i)) + (ka / 64))) rfl dX12_beginning_205 (show 2 ≤ 426 ∧ 426 < 434 by decide) f318 (vp_in_nI (n := ((160 * k) + (4 * i)) + (ka / 64)) (by omega) (by omega)) (nI_clamp (n := ((160 * k) + (4 * i)) + (ka / 64)) (by omega)) rfl ?_
            refine r_lload rfl dX12_beginning_206 rfl ?_
            refine r_ldc2 (v := (-1)) rfl dX12_beginning_208 lc_X12_137 ?_
            refine r_lxor rfl dX12_beginning_211 ?_
            refine r_land rfl dX12_beginning_212 ?_
            exact J308 _
          · refine r_aload_n rfl dX12_beginning_174 rfl ?_
            refine r_getv 17 rfl dX12_beginning_175 (show 2 ≤ 420 ∧ 420 < 434 by decide) ((hF 420 (by decide)).trans h5) fl_X12_30 rfl ?_
            refine r_iload rfl dX12_beginning_178 rfl ?_
            refine r_iload rfl dX12_beginning_180 rfl ?_
            refine r_bipush (v := 6) rfl dX12_beginning_182 (by decide) ?_
            refine r_ishr rfl dX12_beginning_184 ?_
            refine r_eqi (y := nI (ka / 64)) (show (nI ka) >>> (6 &&& 31) = nI (ka / 64) from pk_shrN (n := ka) (by omega) ((6 : Int32) &&& 31) 6 (by decide)) ?_
            refine r_iadd rfl dX12_beginning_185 ?_
            refine r_eqi (y := nI (((160 * k) + (4 * i)) + (ka / 64))) (show (nI ((160 * k) + (4 * i))) + (nI (ka / 64)) = nI (((160 * k) + (4 * i)) + (ka / 64)) from nI_add ((160 * k) + (4 * i)) (ka / 64)) ?_
            obtain ⟨g319, f320⟩ := hS.la LA_426
            refine r_laldv (jn := ((160 * k) + (4 * i)) + (ka / 64)) (v := g319 (((160 * k) + (4 * i)) + (ka / 64))) rfl dX12_beginning_186 (show 2 ≤ 426 ∧ 426 < 434 by decide) f320 (vp_in_nI (n := ((160 * k) + (4 * i)) + (ka / 64)) (by omega) (by omega)) (nI_clamp (n := ((160 * k) + (4 * i)) + (ka / 64)) (by omega)) rfl ?_
            refine r_lload rfl dX12_beginning_187 rfl ?_
            refine r_lor rfl dX12_beginning_189 ?_
            refine r_goto (pc' := 213) rfl dX12_beginning_190 ?_
            exact J308 _
set_option maxRecDepth 20000 in
set_option maxHeartbeats 1000000 in
theorem lp_X12_beginning_57 {xs : Nat → Int32} {L d : Nat} {Q : ev_Q} {th : Int32} {tr : Int64} {ty nx tk pl va fa ss wg : Int32} {c m : Nat} {i : Nat} {xf2 : Int32} {xf3 : Int32} {xf4 : Int32} {h0 : ev_H} (h5 : h0 420 = c420 th tr ty nx tk pl va fa (nI c) (nI m) ss wg) (hc : c ≤ 16) (hm : m ≤ 24) (hi : i < 40) : ∀ (n k : Nat), k + n = 3 → ∀ (h : ev_H) (hS : SH h) (hF : KM [426] h0 h) (u6 : Option Value) (u7 : Option Value) (u8 : Option Value) (u8b : Option Value) (hK : ∀ (h : ev_H) (hS : SH h) (hF : KM [426] h0 h) (kx : Int32) (u6 : Option Value) (u7 : Option Value) (u8 : Option Value) (u8b : Option Value), EV xs L (d + 2) 0 0 M_X12_beginning 434 h 226 [some (.ref 420), some (.int (nI i)), some (.int xf2), some (.int xf3), some (.int xf4), some (.int kx), u6, u7, u8, u8b] [] Q), EV xs L (d + 2) 0 0 M_X12_beginning 434 h 57 [some (.ref 420), some (.int (nI i)), some (.int xf2), some (.int xf3), some (.int xf4), some (.int (nI k)), u6, u7, u8, u8b] [] Q := by
  intro n
  induction n with
  | zero =>
    intro k hk h hS hF u6 u7 u8 u8b hK
    refine r_iload rfl dX12_beginning_57 rfl ?_
    refine r_iconst (v := 3) rfl dX12_beginning_59 (by decide) ?_
    refine r_icmp_ge (tgt := 226) rfl rfl dX12_beginning_60 (fun _ => ?_) (fun zc => absurd (show 3 ≤ nI k from nI_le (a := 3) (b := k) (by omega) (by omega)) zc)
    exact hK h hS hF (nI k) u6 u7 u8 u8b
  | succ n ih =>
    intro k hk h hS hF u6 u7 u8 u8b hK
    refine r_iload rfl dX12_beginning_57 rfl ?_
    refine r_iconst (v := 3) rfl dX12_beginning_59 (by decide) ?_
    refine r_icmp_ge (tgt := 226) rfl rfl dX12_beginning_60 (fun zc => absurd zc (show ¬ 3 ≤ nI k from nI_ge (a := k) (b := 3) (by omega) (by omega))) (fun _ => ?_)
    refine r_sipush (v := 160) rfl dX12_beginning_63 (by decide) ?_
    refine r_iload rfl dX12_beginning_66 rfl ?_
    refine r_imul rfl dX12_beginning_68 ?_
    refine r_eqi (y := nI (160 * k)) (show 160 * (nI k) = nI (160 * k) from pk_mul 160 k) ?_
    refine r_iconst (v := 4) rfl dX12_beginning_69 (by decide) ?_
    refine r_iload_n rfl dX12_beginning_70 rfl ?_
    refine r_imul rfl dX12_beginning_71 ?_
    refine r_eqi (y := nI (4 * i)) (show 4 * (nI i) = nI (4 * i) from pk_mul 4 i) ?_
    refine r_iadd rfl dX12_beginning_72 ?_
    refine r_eqi (y := nI ((160 * k) + (4 * i))) (show (nI (160 * k)) + (nI (4 * i)) = nI ((160 * k) + (4 * i)) from nI_add (160 * k) (4 * i)) ?_
    refine r_istore (ls' := [some (.ref 420), some (.int (nI i)), some (.int xf2), some (.int xf3), some (.int xf4), some (.int (nI k)), some (.int (nI ((160 * k) + (4 * i)))), u7, u8, u8b]) rfl dX12_beginning_73 (Nat.le_of_ble_eq_true rfl) rfl ?_
    refine r_iconst (v := 0) rfl dX12_beginning_75 (by decide) ?_
    refine r_istore (ls' := [some (.ref 420), some (.int (nI i)), some (.int xf2), some (.int xf3), some (.int xf4), some (.int (nI k)), some (.int (nI ((160 * k) + (4 * i)))), some (.int 0), u8, u8b]) rfl dX12_beginning_76 (Nat.le_of_ble_eq_true rfl) rfl ?_
    refine lp_X12_beginning_78 ((hF 420 (by decide)).trans h5) hc hm hi (by omega) (4 - 0) 0 (by omega) h hS (KM_rf _)  ?_
    intro h170 hS171 hK172 kx169 
    have hF173 := KM_tr hF hK172
    refine r_iconst (v := 0) rfl dX12_beginning_112 (by decide) ?_
    refine r_istore (ls' := [some (.ref 420), some (.int (nI i)), some (.int xf2), some (.int xf3), some (.int xf4), some (.int (nI k)), some (.int (nI ((160 * k) + (4 * i)))), some (.int 0), u8, u8b]) rfl dX12_beginning_113 (Nat.le_of_ble_eq_true rfl) rfl ?_
    refine lp_X12_beginning_115 ((hF173 420 (by decide)).trans h5) hc hm hi (by omega) (256 - 0) 0 (by omega) h170 hS171 (KM_rf _) u8 u8b ?_
    intro h177 hS178 hK179 kx174 w175 w176
    have hF180 := KM_tr hF173 hK179
    refine r_iinc (y := nI (k + 1)) (ls' := [some (.ref 420), some (.int (nI i)), some (.int xf2), some (.int xf3), some (.int xf4), some (.int (nI (k + 1))), some (.int (nI ((160 * k) + (4 * i)))), some (.int kx174), w175, w176]) rfl dX12_beginning_220 rfl (nI_1 k) (Nat.le_of_ble_eq_true rfl) rfl ?_
    refine r_goto (pc' := 57) rfl dX12_beginning_223 ?_
    exact ih (k + 1) (by omega) h177 hS178 hF180 (some (.int (nI ((160 * k) + (4 * i))))) (some (.int kx174)) w175 w176 hK
set_option maxRecDepth 20000 in
set_option maxHeartbeats 1000000 in
theorem s_X12_beginning {xs : Nat → Int32} {L d : Nat} {h : ev_H} {th : Int32} {tr : Int64} {ty nx tk pl va fa ss wg : Int32} {c m : Nat} {i : Nat} (hS : SH h) (h5 : h 420 = c420 th tr ty nx tk pl va fa (nI c) (nI m) ss wg) (hc : c ≤ 16) (hm : m ≤ 24) (hi : i < 40) : EV xs L (d + 2) 0 0 M_X12_beginning 434 h 0 [some (.ref 420), some (.int (nI i)), none, none, none, none, none, none, none, none] [] (fun sz' h' r => sz' = 434 ∧ SH h' ∧ KM [426] h h' ∧ r = []) := by
  refine r_aload_n rfl dX12_beginning_0 rfl ?_
  refine r_getv 13 rfl dX12_beginning_1 (show 2 ≤ 420 ∧ 420 < 434 by decide) (((KM_rf (Mod := [426]) h) 420 (by decide)).trans h5) fl_X12_17 rfl ?_
  refine r_bipush (v := 6) rfl dX12_beginning_4 (by decide) ?_
  refine r_iload_n rfl dX12_beginning_6 rfl ?_
  refine r_imul rfl dX12_beginning_7 ?_
  refine r_eqi (y := nI (6 * i)) (show 6 * (nI i) = nI (6 * i) from pk_mul 6 i) ?_
  obtain ⟨g51, f52⟩ := hS.li LI_422
  refine r_ialdv (jn := 6 * i) (v := g51 (6 * i)) rfl dX12_beginning_8 (show 2 ≤ 422 ∧ 422 < 434 by decide) f52 (vp_in_nI (n := 6 * i) (by omega) (by omega)) (nI_clamp (n := 6 * i) (by omega)) rfl ?_
  refine r_aload_n rfl dX12_beginning_9 rfl ?_
  refine cl_X12_133 rfl rfl dX12_beginning_10 (show 2 ≤ 420 ∧ 420 < 434 by decide).1 (show 2 ≤ 420 ∧ 420 < 434 by decide).2 (((KM_rf (Mod := [426]) h) 420 (by decide)).trans h5) (Nat.le_of_ble_eq_true rfl) (s_X12_shared hS (((KM_rf (Mod := [426]) h) 420 (by decide)).trans h5) hc hm) ?_
  rintro _ h53 _ ⟨rfl, e54, x55, rfl⟩
  replace e54 := e54.symm
  subst e54
  refine r_iand rfl dX12_beginning_13 ?_
  refine r_topi (fun x56 e57 => ?_)
  refine r_istore_n (ls' := [some (.ref 420), some (.int (nI i)), some (.int x56), none, none, none, none, none, none, none]) rfl dX12_beginning_14 (Nat.le_of_ble_eq_true rfl) rfl ?_
  refine r_aload_n rfl dX12_beginning_15 rfl ?_
  refine r_getv 13 rfl dX12_beginning_16 (show 2 ≤ 420 ∧ 420 < 434 by decide) (((KM_rf (Mod := [426]) h) 420 (by decide)).trans h5) fl_X12_17 rfl ?_
  refine r_bipush (v := 6) rfl dX12_beginning_19 (by decide) ?_
  refine r_iload_n rfl dX12_beginning_21 rfl ?_
  refine r_imul rfl dX12_beginning_22 ?_
  refine r_eqi (y := nI (6 * i)) (show 6 * (nI i) = nI (6 * i) from pk_mul 6 i) ?_
  refine r_iconst (v := 1) rfl dX12_beginning_23 (by decide) ?_
  refine r_iadd rfl dX12_beginning_24 ?_
  refine r_eqi (y := nI ((6 * i) + 1)) (show (nI (6 * i)) + 1 = nI ((6 * i) + 1) from nI_add (6 * i) 1) ?_
  obtain ⟨g58, f59⟩ := hS.li LI_422
  refine r_ialdv (jn := (6 * i) + 1) (v := g58 ((6 * i) + 1)) rfl dX12_beginning_25 (show 2 ≤ 422 ∧ 422 < 434 by decide) f59 (vp_in_nI (n := (6 * i) + 1) (by omega) (by omega)) (nI_clamp (n := (6 * i) + 1) (by omega)) rfl ?_
  refine r_aload_n rfl dX12_beginning_26 rfl ?_
  refine cl_X12_133 rfl rfl dX12_beginning_27 (show 2 ≤ 420 ∧ 420 < 434 by decide).1 (show 2 ≤ 420 ∧ 420 < 434 by decide).2 (((KM_rf (Mod := [426]) h) 420 (by decide)).trans h5) (Nat.le_of_ble_eq_true rfl) (s_X12_shared hS (((KM_rf (Mod := [426]) h) 420 (by decide)).trans h5) hc hm) ?_
  rintro _ h60 _ ⟨rfl, e61, x62, rfl⟩
  replace e61 := e61.symm
  subst e61
  refine r_iand rfl dX12_beginning_30 ?_
  refine r_topi (fun x63 e64 => ?_)
  refine r_istore_n (ls' := [some (.ref 420), some (.int (nI i)), some (.int x56), some (.int x63), none, none, none, none, none, none]) rfl dX12_beginning_31 (Nat.le_of_ble_eq_true rfl) rfl ?_
  refine r_aload_n rfl dX12_beginning_32 rfl ?_
  refine r_getv 13 rfl dX12_beginning_33 (show 2 ≤ 420 ∧ 420 < 434 by decide) (((KM_rf (Mod := [426]) h) 420 (by decide)).trans h5) fl_X12_17 rfl ?_
  refine r_bipush (v := 6) rfl dX12_beginning_36 (by decide) ?_
  refine r_iload_n rfl dX12_beginning_38 rfl ?_
  refine r_imul rfl dX12_beginning_39 ?_
  refine r_eqi (y := nI (6 * i)) (show 6 * (nI i) = nI (6 * i) from pk_mul 6 i) ?_
  refine r_iconst (v := 2) rfl dX12_beginning_40 (by decide) ?_
  refine r_iadd rfl dX12_beginning_41 ?_
  refine r_eqi (y := nI ((6 * i) + 2)) (show (nI (6 * i)) + 2 = nI ((6 * i) + 2) from nI_add (6 * i) 2) ?_
  obtain ⟨g65, f66⟩ := hS.li LI_422
  refine r_ialdv (jn := (6 * i) + 2) (v := g65 ((6 * i) + 2)) rfl dX12_beginning_42 (show 2 ≤ 422 ∧ 422 < 434 by decide) f66 (vp_in_nI (n := (6 * i) + 2) (by omega) (by omega)) (nI_clamp (n := (6 * i) + 2) (by omega)) rfl ?_
  refine r_iconst (v := 1) rfl dX12_beginning_43 (by decide) ?_
  have J67 : ∀ v68 : Int32, EV xs L (d + 2) 0 0 M_X12_beginning 434 h 52 [some (.ref 420), some (.int (nI i)), some (.int x56), some (.int x63), none, none, none, none, none, none] (.int v68 :: []) (fun sz' h' r => sz' = 434 ∧ SH h' ∧ KM [426] h h' ∧ r = []) := by
    intro v68
    refine r_istore (ls' := [some (.ref 420), some (.int (nI i)), some (.int x56), some (.int x63), some (.int v68), none, none, none, none, none]) rfl dX12_beginning_52 (Nat.le_of_ble_eq_true rfl) rfl ?_
    refine r_iconst (v := 0) rfl dX12_beginning_54 (by decide) ?_
    refine r_istore (ls' := [some (.ref 420), some (.int (nI i)), some (.int x56), some (.int x63), some (.int v68), some (.int 0), none, none, none, none]) rfl dX12_beginning_55 (Nat.le_of_ble_eq_true rfl) rfl ?_
    refine lp_X12_beginning_57 (((KM_rf (Mod := [426]) h) 420 (by decide)).trans h5) hc hm hi (3 - 0) 0 (by omega) h hS (KM_rf _) none none none none ?_
    intro h74 hS75 hK76 kx69 w70 w71 w72 w73
    have hF77 := KM_tr (KM_rf (Mod := [426]) h) hK76
    exact r_ret dX12_beginning_226 (rt_v rfl) ⟨rfl, hS75, hF77, rfl⟩
  refine r_icmp_ne (tgt := 51) rfl rfl dX12_beginning_44 (fun c78 => ?_) (fun c78 => ?_)
  · refine r_iconst (v := 0) rfl dX12_beginning_51 (by decide) ?_
    exact J67 _
  · refine r_iconst (v := 1) rfl dX12_beginning_47 (by decide) ?_
    refine r_goto (pc' := 52) rfl dX12_beginning_48 ?_
    exact J67 _
set_option maxRecDepth 20000 in
set_option maxHeartbeats 1000000 in
theorem lp_X12_spreads_14 {xs : Nat → Int32} {L d : Nat} {Q : ev_Q} {a b : Nat} {x : Int32} {h0 : ev_H} (ha : LA a 4) (hb : LA b 4) : ∀ (n k : Nat), k + n = 4 → ∀ (h : ev_H) (hS : SH h) (hF : KM [b] h0 h)  (hK : ∀ (h : ev_H) (hS : SH h) (hF : KM [b] h0 h) (kx : Int32) , EV xs L (d + 1) 0 0 M_X12_spreads 434 h 31 [some (.ref a), some (.ref b), some (.int x), some (.long 0), none, some (.long 0), none, some (.long 0), none, some (.long 0), none, some (.int kx), none, none, none] [] Q), EV xs L (d + 1) 0 0 M_X12_spreads 434 h 14 [some (.ref a), some (.ref b), some (.int x), some (.long 0), none, some (.long 0), none, some (.long 0), none, some (.long 0), none, some (.int (nI k)), none, none, none] [] Q := by
  intro n
  induction n with
  | zero =>
    intro k hk h hS hF  hK
    refine r_iload rfl dX12_spreads_14 rfl ?_
    refine r_iconst (v := 4) rfl dX12_spreads_16 (by decide) ?_
    refine r_icmp_ge (tgt := 31) rfl rfl dX12_spreads_17 (fun _ => ?_) (fun zc => absurd (show 4 ≤ nI k from nI_le (a := 4) (b := k) (by omega) (by omega)) zc)
    exact hK h hS hF (nI k) 
  | succ n ih =>
    intro k hk h hS hF  hK
    refine r_iload rfl dX12_spreads_14 rfl ?_
    refine r_iconst (v := 4) rfl dX12_spreads_16 (by decide) ?_
    refine r_icmp_ge (tgt := 31) rfl rfl dX12_spreads_17 (fun zc => absurd zc (show ¬ 4 ≤ nI k from nI_ge (a := k) (b := 4) (by omega) (by omega))) (fun _ => ?_)
    refine r_aload_n rfl dX12_spreads_20 rfl ?_
    refine r_iload rfl dX12_spreads_21 rfl ?_
    refine r_lconst (v := 0) rfl dX12_spreads_23 (by decide) ?_
    obtain ⟨g151, f152⟩ := hS.la hb
    refine m_last rfl dX12_spreads_24 hb.1 hS hF (List.mem_singleton.mpr rfl) f152 (vp_in_nI (n := k) (by omega) (by omega)) (fun h153 hS154 hF155 hN156 => ?_)
    refine r_iinc (y := nI (k + 1)) (ls' := [some (.ref a), some (.ref b), some (.int x), some (.long 0), none, some (.long 0), none, some (.long 0), none, some (.long 0), none, some (.int (nI (k + 1))), none, none, none]) rfl dX12_spreads_25 rfl (nI_1 k) (Nat.le_of_ble_eq_true rfl) rfl ?_
    refine r_goto (pc' := 14) rfl dX12_spreads_28 ?_
    exact ih (k + 1) (by omega) h153 hS154 hF155  hK
set_option maxRecDepth 20000 in
set_option maxHeartbeats 1000000 in
theorem lp_X12_spreads_34 {xs : Nat → Int32} {L d : Nat} {Q : ev_Q} {a b : Nat} {x : Int32} {h0 : ev_H} (ha : LA a 4) (hb : LA b 4) : ∀ (n k : Nat), k + n = 256 → ∀ (h : ev_H) (hS : SH h) (hF : KM [b] h0 h) (y3 : Int64) (y5 : Int64) (y7 : Int64) (y9 : Int64) (u12 : Option Value) (hK : ∀ (h : ev_H) (hS : SH h) (hF : KM [b] h0 h) (kx : Int32) (y3 : Int64) (y5 : Int64) (y7 : Int64) (y9 : Int64) (u12 : Option Value), EV xs L (d + 1) 0 0 M_X12_spreads 434 h 157 [some (.ref a), some (.ref b), some (.int x), some (.long y3), none, some (.long y5), none, some (.long y7), none, some (.long y9), none, some (.int kx), u12, none, none] [] Q), EV xs L (d + 1) 0 0 M_X12_spreads 434 h 34 [some (.ref a), some (.ref b), some (.int x), some (.long y3), none, some (.long y5), none, some (.long y7), none, some (.long y9), none, some (.int (nI k)), u12, none, none] [] Q := by
  intro n
  induction n with
  | zero =>
    intro k hk h hS hF y3 y5 y7 y9 u12 hK
    refine r_iload rfl dX12_spreads_34 rfl ?_
    refine r_sipush (v := 256) rfl dX12_spreads_36 (by decide) ?_
    refine r_icmp_ge (tgt := 157) rfl rfl dX12_spreads_39 (fun _ => ?_) (fun zc => absurd (show 256 ≤ nI k from nI_le (a := 256) (b := k) (by omega) (by omega)) zc)
    exact hK h hS hF (nI k) y3 y5 y7 y9 u12
  | succ n ih =>
    intro k hk h hS hF y3 y5 y7 y9 u12 hK
    refine r_iload rfl dX12_spreads_34 rfl ?_
    refine r_sipush (v := 256) rfl dX12_spreads_36 (by decide) ?_
    refine r_icmp_ge (tgt := 157) rfl rfl dX12_spreads_39 (fun zc => absurd zc (show ¬ 256 ≤ nI k from nI_ge (a := k) (b := 256) (by omega) (by omega))) (fun _ => ?_)
    refine r_aload_n rfl dX12_spreads_42 rfl ?_
    refine r_iconst (v := 0) rfl dX12_spreads_43 (by decide) ?_
    refine r_iload rfl dX12_spreads_44 rfl ?_
    refine cl_X12_143 rfl rfl dX12_spreads_46 (Nat.le_of_ble_eq_true rfl) (s_X12_has hS ha (by omega) (q := 0) (w := k) (by omega) (by omega)) ?_
    rintro _ h156 _ ⟨rfl, e157, x158, z159, rfl⟩
    replace e157 := e157.symm
    subst e157
    refine r_if_eq (tgt := 151) rfl rfl dX12_spreads_49 (fun c160 => ?_) (fun c160 => ?_)
    · refine r_iinc (y := nI (k + 1)) (ls' := [some (.ref a), some (.ref b), some (.int x), some (.long y3), none, some (.long y5), none, some (.long y7), none, some (.long y9), none, some (.int (nI (k + 1))), u12, none, none]) rfl dX12_spreads_151 rfl (nI_1 k) (Nat.le_of_ble_eq_true rfl) rfl ?_
      refine r_goto (pc' := 34) rfl dX12_spreads_154 ?_
      exact ih (k + 1) (by omega) h hS hF y3 y5 y7 y9 u12 hK
    · refine r_iload rfl dX12_spreads_52 rfl ?_
      refine r_iload_n rfl dX12_spreads_54 rfl ?_
      refine r_iand rfl dX12_spreads_55 ?_
      refine r_topi (fun x161 e162 => ?_)
      refine r_istore (ls' := [some (.ref a), some (.ref b), some (.int x), some (.long y3), none, some (.long y5), none, some (.long y7), none, some (.long y9), none, some (.int (nI k)), some (.int x161), none, none]) rfl dX12_spreads_56 (Nat.le_of_ble_eq_true rfl) rfl ?_
      refine r_lload_n rfl dX12_spreads_58 rfl ?_
      refine r_iload rfl dX12_spreads_59 rfl ?_
      refine r_bipush (v := 64) rfl dX12_spreads_61 (by decide) ?_
      have J163 : ∀ v164 : Int64, EV xs L (d + 1) 0 0 M_X12_spreads 434 h 74 [some (.ref a), some (.ref b), some (.int x), some (.long y3), none, some (.long y5), none, some (.long y7), none, some (.long y9), none, some (.int (nI k)), some (.int x161), none, none] (.long v164 :: .long y3 :: []) Q := by
        intro v164
        refine r_lor rfl dX12_spreads_74 ?_
        refine r_topl (fun x165 e166 => ?_)
        refine r_lstore_n (ls' := [some (.ref a), some (.ref b), some (.int x), some (.long x165), none, some (.long y5), none, some (.long y7), none, some (.long y9), none, some (.int (nI k)), some (.int x161), none, none]) rfl dX12_spreads_75 (Nat.le_of_ble_eq_true rfl) rfl ?_
        refine r_lload rfl dX12_spreads_76 rfl ?_
        refine r_iload rfl dX12_spreads_78 rfl ?_
        refine r_bipush (v := 64) rfl dX12_spreads_80 (by decide) ?_
        refine r_idiv rfl dX12_spreads_82 (by decide) ?_
        refine r_iconst (v := 1) rfl dX12_spreads_83 (by decide) ?_
        have J167 : ∀ v168 : Int64, EV xs L (d + 1) 0 0 M_X12_spreads 434 h 98 [some (.ref a), some (.ref b), some (.int x), some (.long x165), none, some (.long y5), none, some (.long y7), none, some (.long y9), none, some (.int (nI k)), some (.int x161), none, none] (.long v168 :: .long y5 :: []) Q := by
          intro v168
          refine r_lor rfl dX12_spreads_98 ?_
          refine r_topl (fun x169 e170 => ?_)
          refine r_lstore (ls' := [some (.ref a), some (.ref b), some (.int x), some (.long x165), none, some (.long x169), none, some (.long y7), none, some (.long y9), none, some (.int (nI k)), some (.int x161), none, none]) rfl dX12_spreads_99 (Nat.le_of_ble_eq_true rfl) rfl ?_
          refine r_lload rfl dX12_spreads_101 rfl ?_
          refine r_iload rfl dX12_spreads_103 rfl ?_
          refine r_bipush (v := 64) rfl dX12_spreads_105 (by decide) ?_
          refine r_idiv rfl dX12_spreads_107 (by decide) ?_
          refine r_iconst (v := 2) rfl dX12_spreads_108 (by decide) ?_
          have J171 : ∀ v172 : Int64, EV xs L (d + 1) 0 0 M_X12_spreads 434 h 123 [some (.ref a), some (.ref b), some (.int x), some (.long x165), none, some (.long x169), none, some (.long y7), none, some (.long y9), none, some (.int (nI k)), some (.int x161), none, none] (.long v172 :: .long y7 :: []) Q := by
            intro v172
            refine r_lor rfl dX12_spreads_123 ?_
            refine r_topl (fun x173 e174 => ?_)
            refine r_lstore (ls' := [some (.ref a), some (.ref b), some (.int x), some (.long x165), none, some (.long x169), none, some (.long x173), none, some (.long y9), none, some (.int (nI k)), some (.int x161), none, none]) rfl dX12_spreads_124 (Nat.le_of_ble_eq_true rfl) rfl ?_
            refine r_lload rfl dX12_spreads_126 rfl ?_
            refine r_iload rfl dX12_spreads_128 rfl ?_
            refine r_bipush (v := 64) rfl dX12_spreads_130 (by decide) ?_
            refine r_idiv rfl dX12_spreads_132 (by decide) ?_
            refine r_iconst (v := 3) rfl dX12_spreads_133 (by decide) ?_
            have J175 : ∀ v176 : Int64, EV xs L (d + 1) 0 0 M_X12_spreads 434 h 148 [some (.ref a), some (.ref b), some (.int x), some (.long x165), none, some (.long x169), none, some (.long x173), none, some (.long y9), none, some (.int (nI k)), some (.int x161), none, none] (.long v176 :: .long y9 :: []) Q := by
              intro v176
              refine r_lor rfl dX12_spreads_148 ?_
              refine r_topl (fun x177 e178 => ?_)
              refine r_lstore (ls' := [some (.ref a), some (.ref b), some (.int x), some (.long x165), none, some (.long x169), none, some (.long x173), none, some (.long x177), none, some (.int (nI k)), some (.int x161), none, none]) rfl dX12_spreads_149 (Nat.le_of_ble_eq_true rfl) rfl ?_
              refine r_iinc (y := nI (k + 1)) (ls' := [some (.ref a), some (.ref b), some (.int x), some (.long x165), none, some (.long x169), none, some (.long x173), none, some (.long x177), none, some (.int (nI (k + 1))), some (.int x161), none, none]) rfl dX12_spreads_151 rfl (nI_1 k) (Nat.le_of_ble_eq_true rfl) rfl ?_
              refine r_goto (pc' := 34) rfl dX12_spreads_154 ?_
              exact ih (k + 1) (by omega) h hS hF x165 x169 x173 x177 (some (.int x161)) hK
            refine r_icmp_ne (tgt := 147) rfl rfl dX12_spreads_134 (fun c179 => ?_) (fun c179 => ?_)
            · refine r_lconst (v := 0) rfl dX12_spreads_147 (by decide) ?_
              exact J175 _
            · refine r_lconst (v := 1) rfl dX12_spreads_137 (by decide) ?_
              refine r_iload rfl dX12_spreads_138 rfl ?_
              refine r_bipush (v := 63) rfl dX12_spreads_140 (by decide) ?_
              refine r_iand rfl dX12_spreads_142 ?_
              refine r_lshl rfl dX12_spreads_143 ?_
              refine r_goto (pc' := 148) rfl dX12_spreads_144 ?_
              exact J175 _
          refine r_icmp_ne (tgt := 122) rfl rfl dX12_spreads_109 (fun c180 => ?_) (fun c180 => ?_)
          · refine r_lconst (v := 0) rfl dX12_spreads_122 (by decide) ?_
            exact J171 _
          · refine r_lconst (v := 1) rfl dX12_spreads_112 (by decide) ?_
            refine r_iload rfl dX12_spreads_113 rfl ?_
            refine r_bipush (v := 63) rfl dX12_spreads_115 (by decide) ?_
            refine r_iand rfl dX12_spreads_117 ?_
            refine r_lshl rfl dX12_spreads_118 ?_
            refine r_goto (pc' := 123) rfl dX12_spreads_119 ?_
            exact J171 _
        refine r_icmp_ne (tgt := 97) rfl rfl dX12_spreads_84 (fun c181 => ?_) (fun c181 => ?_)
        · refine r_lconst (v := 0) rfl dX12_spreads_97 (by decide) ?_
          exact J167 _
        · refine r_lconst (v := 1) rfl dX12_spreads_87 (by decide) ?_
          refine r_iload rfl dX12_spreads_88 rfl ?_
          refine r_bipush (v := 63) rfl dX12_spreads_90 (by decide) ?_
          refine r_iand rfl dX12_spreads_92 ?_
          refine r_lshl rfl dX12_spreads_93 ?_
          refine r_goto (pc' := 98) rfl dX12_spreads_94 ?_
          exact J167 _
      refine r_icmp_ge (tgt := 73) rfl rfl dX12_spreads_63 (fun c182 => ?_) (fun c182 => ?_)
      · refine r_lconst (v := 0) rfl dX12_spreads_73 (by decide) ?_
        exact J163 _
      · refine r_lconst (v := 1) rfl dX12_spreads_66 (by decide) ?_
        refine r_iload rfl dX12_spreads_67 rfl ?_
        refine r_lshl rfl dX12_spreads_69 ?_
        refine r_goto (pc' := 74) rfl dX12_spreads_70 ?_
        exact J163 _
set_option maxRecDepth 20000 in
set_option maxHeartbeats 1000000 in
theorem lp_X12_spreads_160 {xs : Nat → Int32} {L d : Nat} {Q : ev_Q} {a b : Nat} {x : Int32} {xf3 : Int64} {xf5 : Int64} {xf7 : Int64} {xf9 : Int64} {h0 : ev_H} (ha : LA a 4) (hb : LA b 4) : ∀ (n k : Nat), k + n = 256 → ∀ (h : ev_H) (hS : SH h) (hF : KM [b] h0 h) (u12 : Option Value) (u13 : Option Value) (u13b : Option Value) (hK : ∀ (h : ev_H) (hS : SH h) (hF : KM [b] h0 h) (kx : Int32) (u12 : Option Value) (u13 : Option Value) (u13b : Option Value), EV xs L (d + 1) 0 0 M_X12_spreads 434 h 250 [some (.ref a), some (.ref b), some (.int x), some (.long xf3), none, some (.long xf5), none, some (.long xf7), none, some (.long xf9), none, some (.int kx), u12, u13, u13b] [] Q), EV xs L (d + 1) 0 0 M_X12_spreads 434 h 160 [some (.ref a), some (.ref b), some (.int x), some (.long xf3), none, some (.long xf5), none, some (.long xf7), none, some (.long xf9), none, some (.int (nI k)), u12, u13, u13b] [] Q := by
  intro n
  induction n with
  | zero =>
    intro k hk h hS hF u12 u13 u13b hK
    refine r_iload rfl dX12_spreads_160 rfl ?_
    refine r_sipush (v := 256) rfl dX12_spreads_162 (by decide) ?_
    refine r_icmp_ge (tgt := 250) rfl rfl dX12_spreads_165 (fun _ => ?_) (fun zc => absurd (show 256 ≤ nI k from nI_le (a := 256) (b := k) (by omega) (by omega)) zc)
    exact hK h hS hF (nI k) u12 u13 u13b
  | succ n ih =>
    intro k hk h hS hF u12 u13 u13b hK
    refine r_iload rfl dX12_spreads_160 rfl ?_
    refine r_sipush (v := 256) rfl dX12_spreads_162 (by decide) ?_
    refine r_icmp_ge (tgt := 250) rfl rfl dX12_spreads_165 (fun zc => absurd zc (show ¬ 256 ≤ nI k from nI_ge (a := k) (b := 256) (by omega) (by omega))) (fun _ => ?_)
    refine r_iload rfl dX12_spreads_168 rfl ?_
    refine r_iload_n rfl dX12_spreads_170 rfl ?_
    refine r_iand rfl dX12_spreads_171 ?_
    refine r_topi (fun x166 e167 => ?_)
    refine r_istore (ls' := [some (.ref a), some (.ref b), some (.int x), some (.long xf3), none, some (.long xf5), none, some (.long xf7), none, some (.long xf9), none, some (.int (nI k)), some (.int x166), u13, u13b]) rfl dX12_spreads_172 (Nat.le_of_ble_eq_true rfl) rfl ?_
    refine r_iload rfl dX12_spreads_174 rfl ?_
    refine r_bipush (v := 64) rfl dX12_spreads_176 (by decide) ?_
    refine r_idiv rfl dX12_spreads_178 (by decide) ?_
    have J168 : ∀ v169 : Int64, EV xs L (d + 1) 0 0 M_X12_spreads 434 h 216 [some (.ref a), some (.ref b), some (.int x), some (.long xf3), none, some (.long xf5), none, some (.long xf7), none, some (.long xf9), none, some (.int (nI k)), some (.int x166), u13, u13b] (.long v169 :: []) Q := by
      intro v169
      refine r_lstore (ls' := [some (.ref a), some (.ref b), some (.int x), some (.long xf3), none, some (.long xf5), none, some (.long xf7), none, some (.long xf9), none, some (.int (nI k)), some (.int x166), some (.long v169), none]) rfl dX12_spreads_216 (Nat.le_of_ble_eq_true rfl) rfl ?_
      refine r_aload_n rfl dX12_spreads_218 rfl ?_
      refine r_iload rfl dX12_spreads_219 rfl ?_
      refine r_bipush (v := 6) rfl dX12_spreads_221 (by decide) ?_
      refine r_ishr rfl dX12_spreads_223 ?_
      refine r_eqi (y := nI (k / 64)) (show (nI k) >>> (6 &&& 31) = nI (k / 64) from pk_shrN (n := k) (by omega) ((6 : Int32) &&& 31) 6 (by decide)) ?_
      refine r_dup2 rfl dX12_spreads_224 (by intro q; cases q) (by intro q; cases q) ?_
      obtain ⟨g170, f171⟩ := hS.la hb
      refine r_laldv (jn := k / 64) (v := g170 (k / 64)) rfl dX12_spreads_225 hb.1 f171 (vp_in_nI (n := k / 64) (by omega) (by omega)) (nI_clamp (n := k / 64) (by omega)) rfl ?_
      refine r_lload rfl dX12_spreads_226 rfl ?_
      refine r_iload rfl dX12_spreads_228 rfl ?_
      refine r_bipush (v := 63) rfl dX12_spreads_230 (by decide) ?_
      refine r_iand rfl dX12_spreads_232 ?_
      refine r_lshr rfl dX12_spreads_233 ?_
      refine r_lconst (v := 1) rfl dX12_spreads_234 (by decide) ?_
      refine r_land rfl dX12_spreads_235 ?_
      refine r_iload rfl dX12_spreads_236 rfl ?_
      refine r_bipush (v := 63) rfl dX12_spreads_238 (by decide) ?_
      refine r_iand rfl dX12_spreads_240 ?_
      refine r_eqi (y := nI (k % 64)) (show (nI k) &&& 63 = nI (k % 64) from pk_andN (n := k) (by omega) (m := 63) 6 (by decide)) ?_
      refine r_lshl rfl dX12_spreads_241 ?_
      refine r_lor rfl dX12_spreads_242 ?_
      obtain ⟨g172, f173⟩ := hS.la hb
      refine m_last rfl dX12_spreads_243 hb.1 hS hF (List.mem_singleton.mpr rfl) f173 (vp_in_nI (n := k / 64) (by omega) (by omega)) (fun h174 hS175 hF176 hN177 => ?_)
      refine r_iinc (y := nI (k + 1)) (ls' := [some (.ref a), some (.ref b), some (.int x), some (.long xf3), none, some (.long xf5), none, some (.long xf7), none, some (.long xf9), none, some (.int (nI (k + 1))), some (.int x166), some (.long v169), none]) rfl dX12_spreads_244 rfl (nI_1 k) (Nat.le_of_ble_eq_true rfl) rfl ?_
      refine r_goto (pc' := 160) rfl dX12_spreads_247 ?_
      exact ih (k + 1) (by omega) h174 hS175 hF176 (some (.int x166)) (some (.long v169)) none hK
    refine r_if_ne (tgt := 186) rfl rfl dX12_spreads_179 (fun c178 => ?_) (fun c178 => ?_)
    · refine r_iload rfl dX12_spreads_186 rfl ?_
      refine r_bipush (v := 64) rfl dX12_spreads_188 (by decide) ?_
      refine r_idiv rfl dX12_spreads_190 (by decide) ?_
      refine r_iconst (v := 1) rfl dX12_spreads_191 (by decide) ?_
      refine r_icmp_ne (tgt := 200) rfl rfl dX12_spreads_192 (fun c179 => ?_) (fun c179 => ?_)
      · refine r_iload rfl dX12_spreads_200 rfl ?_
        refine r_bipush (v := 64) rfl dX12_spreads_202 (by decide) ?_
        refine r_idiv rfl dX12_spreads_204 (by decide) ?_
        refine r_iconst (v := 2) rfl dX12_spreads_205 (by decide) ?_
        refine r_icmp_ne (tgt := 214) rfl rfl dX12_spreads_206 (fun c180 => ?_) (fun c180 => ?_)
        · refine r_lload rfl dX12_spreads_214 rfl ?_
          exact J168 _
        · refine r_lload rfl dX12_spreads_209 rfl ?_
          refine r_goto (pc' := 216) rfl dX12_spreads_211 ?_
          exact J168 _
      · refine r_lload rfl dX12_spreads_195 rfl ?_
        refine r_goto (pc' := 216) rfl dX12_spreads_197 ?_
        exact J168 _
    · refine r_lload_n rfl dX12_spreads_182 rfl ?_
      refine r_goto (pc' := 216) rfl dX12_spreads_183 ?_
      exact J168 _
set_option maxRecDepth 20000 in
set_option maxHeartbeats 1000000 in
theorem s_X12_spreads {xs : Nat → Int32} {L d : Nat} {h : ev_H} {a b : Nat} {x : Int32} (hS : SH h) (ha : LA a 4) (hb : LA b 4) : EV xs L (d + 1) 0 0 M_X12_spreads 434 h 0 [some (.ref a), some (.ref b), some (.int x), none, none, none, none, none, none, none, none, none, none, none, none] [] (fun sz' h' r => sz' = 434 ∧ SH h' ∧ KM [b] h h' ∧ r = []) := by
  refine r_lconst (v := 0) rfl dX12_spreads_0 (by decide) ?_
  refine r_lstore_n (ls' := [some (.ref a), some (.ref b), some (.int x), some (.long 0), none, none, none, none, none, none, none, none, none, none, none]) rfl dX12_spreads_1 (Nat.le_of_ble_eq_true rfl) rfl ?_
  refine r_lconst (v := 0) rfl dX12_spreads_2 (by decide) ?_
  refine r_lstore (ls' := [some (.ref a), some (.ref b), some (.int x), some (.long 0), none, some (.long 0), none, none, none, none, none, none, none, none, none]) rfl dX12_spreads_3 (Nat.le_of_ble_eq_true rfl) rfl ?_
  refine r_lconst (v := 0) rfl dX12_spreads_5 (by decide) ?_
  refine r_lstore (ls' := [some (.ref a), some (.ref b), some (.int x), some (.long 0), none, some (.long 0), none, some (.long 0), none, none, none, none, none, none, none]) rfl dX12_spreads_6 (Nat.le_of_ble_eq_true rfl) rfl ?_
  refine r_lconst (v := 0) rfl dX12_spreads_8 (by decide) ?_
  refine r_lstore (ls' := [some (.ref a), some (.ref b), some (.int x), some (.long 0), none, some (.long 0), none, some (.long 0), none, some (.long 0), none, none, none, none, none]) rfl dX12_spreads_9 (Nat.le_of_ble_eq_true rfl) rfl ?_
  refine r_iconst (v := 0) rfl dX12_spreads_11 (by decide) ?_
  refine r_istore (ls' := [some (.ref a), some (.ref b), some (.int x), some (.long 0), none, some (.long 0), none, some (.long 0), none, some (.long 0), none, some (.int 0), none, none, none]) rfl dX12_spreads_12 (Nat.le_of_ble_eq_true rfl) rfl ?_
  refine lp_X12_spreads_14 ha hb (4 - 0) 0 (by omega) h hS (KM_rf _)  ?_
  intro h52 hS53 hK54 kx51 
  have hF55 := KM_tr (KM_rf (Mod := [b]) h) hK54
  refine r_iconst (v := 0) rfl dX12_spreads_31 (by decide) ?_
  refine r_istore (ls' := [some (.ref a), some (.ref b), some (.int x), some (.long 0), none, some (.long 0), none, some (.long 0), none, some (.long 0), none, some (.int 0), none, none, none]) rfl dX12_spreads_32 (Nat.le_of_ble_eq_true rfl) rfl ?_
  refine lp_X12_spreads_34 ha hb (256 - 0) 0 (by omega) h52 hS53 (KM_rf _) 0 0 0 0 none ?_
  intro h62 hS63 hK64 kx56 w57 w58 w59 w60 w61
  have hF65 := KM_tr hF55 hK64
  refine r_iconst (v := 0) rfl dX12_spreads_157 (by decide) ?_
  refine r_istore (ls' := [some (.ref a), some (.ref b), some (.int x), some (.long w57), none, some (.long w58), none, some (.long w59), none, some (.long w60), none, some (.int 0), w61, none, none]) rfl dX12_spreads_158 (Nat.le_of_ble_eq_true rfl) rfl ?_
  refine lp_X12_spreads_160 ha hb (256 - 0) 0 (by omega) h62 hS63 (KM_rf _) w61 none none ?_
  intro h70 hS71 hK72 kx66 w67 w68 w69
  have hF73 := KM_tr hF65 hK72
  exact r_ret dX12_spreads_250 (rt_v rfl) ⟨rfl, hS71, hF73, rfl⟩
set_option maxRecDepth 20000 in
set_option maxHeartbeats 1000000 in
theorem lp_X12_bounds_32 {xs : Nat → Int32} {L d : Nat} {Q : ev_Q} {th : Int32} {tr : Int64} {ty nx tk pl va fa ss wg : Int32} {c m : Nat} {xf1 : Int32} {k : Nat} {h0 : ev_H} (h5 : h0 420 = c420 th tr ty nx tk pl va fa (nI c) (nI m) ss wg) (hc : c ≤ 16) (hm : m ≤ 24) (hb_k : k < 4) : ∀ (n ka : Nat), ka + n = c → ∀ (h : ev_H) (hS : SH h) (hF : KM [427, 428, 429, 430] h0 h)  (hK : ∀ (h : ev_H) (hS : SH h) (hF : KM [427, 428, 429, 430] h0 h) (kx : Int32) , EV xs L (d + 2) 0 0 M_X12_bounds 434 h 126 [some (.ref 420), some (.int xf1), some (.int (nI k)), some (.int kx)] [] Q), EV xs L (d + 2) 0 0 M_X12_bounds 434 h 32 [some (.ref 420), some (.int xf1), some (.int (nI k)), some (.int (nI ka))] [] Q := by
  intro n
  induction n with
  | zero =>
    intro ka hk h hS hF  hK
    refine r_iload_n rfl dX12_bounds_32 rfl ?_
    refine r_aload_n rfl dX12_bounds_33 rfl ?_
    refine r_getv 9 rfl dX12_bounds_34 (show 2 ≤ 420 ∧ 420 < 434 by decide) ((hF 420 (by decide)).trans h5) fl_X12_112 rfl ?_
    refine r_icmp_ge (tgt := 126) rfl rfl dX12_bounds_37 (fun _ => ?_) (fun zc => absurd (show (nI c) ≤ nI ka from nI_le (a := c) (b := ka) (by omega) (by omega)) zc)
    exact hK h hS hF (nI ka) 
  | succ n ih =>
    intro ka hk h hS hF  hK
    refine r_iload_n rfl dX12_bounds_32 rfl ?_
    refine r_aload_n rfl dX12_bounds_33 rfl ?_
    refine r_getv 9 rfl dX12_bounds_34 (show 2 ≤ 420 ∧ 420 < 434 by decide) ((hF 420 (by decide)).trans h5) fl_X12_112 rfl ?_
    refine r_icmp_ge (tgt := 126) rfl rfl dX12_bounds_37 (fun zc => absurd zc (show ¬ (nI c) ≤ nI ka from nI_ge (a := ka) (b := c) (by omega) (by omega))) (fun _ => ?_)
    refine r_aload_n rfl dX12_bounds_40 rfl ?_
    refine r_getv 18 rfl dX12_bounds_41 (show 2 ≤ 420 ∧ 420 < 434 by decide) ((hF 420 (by decide)).trans h5) fl_X12_33 rfl ?_
    refine r_iload_n rfl dX12_bounds_44 rfl ?_
    refine r_dup2 rfl dX12_bounds_45 (by intro q; cases q) (by intro q; cases q) ?_
    obtain ⟨g266, f267⟩ := hS.la LA_427
    refine r_laldv (jn := k) (v := g266 k) rfl dX12_bounds_46 (show 2 ≤ 427 ∧ 427 < 434 by decide) f267 (vp_in_nI (n := k) (by omega) (by omega)) (nI_clamp (n := k) (by omega)) rfl ?_
    refine r_aload_n rfl dX12_bounds_47 rfl ?_
    refine r_getv 13 rfl dX12_bounds_48 (show 2 ≤ 420 ∧ 420 < 434 by decide) ((hF 420 (by decide)).trans h5) fl_X12_17 rfl ?_
    refine r_bipush (v := 6) rfl dX12_bounds_51 (by decide) ?_
    refine r_iload_n rfl dX12_bounds_53 rfl ?_
    refine r_imul rfl dX12_bounds_54 ?_
    refine r_eqi (y := nI (6 * ka)) (show 6 * (nI ka) = nI (6 * ka) from pk_mul 6 ka) ?_
    refine r_iconst (v := 2) rfl dX12_bounds_55 (by decide) ?_
    refine r_iadd rfl dX12_bounds_56 ?_
    refine r_eqi (y := nI ((6 * ka) + 2)) (show (nI (6 * ka)) + 2 = nI ((6 * ka) + 2) from nI_add (6 * ka) 2) ?_
    obtain ⟨g268, f269⟩ := hS.li LI_422
    refine r_ialdv (jn := (6 * ka) + 2) (v := g268 ((6 * ka) + 2)) rfl dX12_bounds_57 (show 2 ≤ 422 ∧ 422 < 434 by decide) f269 (vp_in_nI (n := (6 * ka) + 2) (by omega) (by omega)) (nI_clamp (n := (6 * ka) + 2) (by omega)) rfl ?_
    refine r_iconst (v := 1) rfl dX12_bounds_58 (by decide) ?_
    have J270 : ∀ v271 : Int64, EV xs L (d + 2) 0 0 M_X12_bounds 434 h 78 [some (.ref 420), some (.int xf1), some (.int (nI k)), some (.int (nI ka))] (.long v271 :: .long (g266 k) :: .int (nI k) :: .ref 427 :: []) Q := by
      intro v271
      refine r_land rfl dX12_bounds_78 ?_
      obtain ⟨g272, f273⟩ := hS.la LA_427
      refine m_last rfl dX12_bounds_79 (show 2 ≤ 427 ∧ 427 < 434 by decide) hS hF (by decide) f273 (vp_in_nI (n := k) (by omega) (by omega)) (fun h274 hS275 hF276 hN277 => ?_)
      refine r_aload_n rfl dX12_bounds_80 rfl ?_
      refine r_getv 19 rfl dX12_bounds_81 (show 2 ≤ 420 ∧ 420 < 434 by decide) ((hF276 420 (by decide)).trans h5) fl_X12_36 rfl ?_
      refine r_iload_n rfl dX12_bounds_84 rfl ?_
      refine r_dup2 rfl dX12_bounds_85 (by intro q; cases q) (by intro q; cases q) ?_
      obtain ⟨g278, f279⟩ := hS275.la LA_428
      refine r_laldv (jn := k) (v := g278 k) rfl dX12_bounds_86 (show 2 ≤ 428 ∧ 428 < 434 by decide) f279 (vp_in_nI (n := k) (by omega) (by omega)) (nI_clamp (n := k) (by omega)) rfl ?_
      refine r_aload_n rfl dX12_bounds_87 rfl ?_
      refine r_getv 13 rfl dX12_bounds_88 (show 2 ≤ 420 ∧ 420 < 434 by decide) ((hF276 420 (by decide)).trans h5) fl_X12_17 rfl ?_
      refine r_bipush (v := 6) rfl dX12_bounds_91 (by decide) ?_
      refine r_iload_n rfl dX12_bounds_93 rfl ?_
      refine r_imul rfl dX12_bounds_94 ?_
      refine r_eqi (y := nI (6 * ka)) (show 6 * (nI ka) = nI (6 * ka) from pk_mul 6 ka) ?_
      refine r_iconst (v := 2) rfl dX12_bounds_95 (by decide) ?_
      refine r_iadd rfl dX12_bounds_96 ?_
      refine r_eqi (y := nI ((6 * ka) + 2)) (show (nI (6 * ka)) + 2 = nI ((6 * ka) + 2) from nI_add (6 * ka) 2) ?_
      obtain ⟨g280, f281⟩ := hS275.li LI_422
      refine r_ialdv (jn := (6 * ka) + 2) (v := g280 ((6 * ka) + 2)) rfl dX12_bounds_97 (show 2 ≤ 422 ∧ 422 < 434 by decide) f281 (vp_in_nI (n := (6 * ka) + 2) (by omega) (by omega)) (nI_clamp (n := (6 * ka) + 2) (by omega)) rfl ?_
      refine r_iconst (v := 2) rfl dX12_bounds_98 (by decide) ?_
      have J282 : ∀ v283 : Int64, EV xs L (d + 2) 0 0 M_X12_bounds 434 h274 118 [some (.ref 420), some (.int xf1), some (.int (nI k)), some (.int (nI ka))] (.long v283 :: .long (g278 k) :: .int (nI k) :: .ref 428 :: []) Q := by
        intro v283
        refine r_land rfl dX12_bounds_118 ?_
        obtain ⟨g284, f285⟩ := hS275.la LA_428
        refine m_last rfl dX12_bounds_119 (show 2 ≤ 428 ∧ 428 < 434 by decide) hS275 hF276 (by decide) f285 (vp_in_nI (n := k) (by omega) (by omega)) (fun h286 hS287 hF288 hN289 => ?_)
        refine r_iinc (y := nI (ka + 1)) (ls' := [some (.ref 420), some (.int xf1), some (.int (nI k)), some (.int (nI (ka + 1)))]) rfl dX12_bounds_120 rfl (nI_1 ka) (Nat.le_of_ble_eq_true rfl) rfl ?_
        refine r_goto (pc' := 32) rfl dX12_bounds_123 ?_
        exact ih (ka + 1) (by omega) h286 hS287 hF288  hK
      refine r_icmp_ne (tgt := 115) rfl rfl dX12_bounds_99 (fun c290 => ?_) (fun c290 => ?_)
      · refine r_ldc2 (v := (-1)) rfl dX12_bounds_115 lc_X12_137 ?_
        exact J282 _
      · refine r_aload_n rfl dX12_bounds_102 rfl ?_
        refine r_getv 16 rfl dX12_bounds_103 (show 2 ≤ 420 ∧ 420 < 434 by decide) ((hF276 420 (by decide)).trans h5) fl_X12_26 rfl ?_
        refine r_iconst (v := 4) rfl dX12_bounds_106 (by decide) ?_
        refine r_iload_n rfl dX12_bounds_107 rfl ?_
        refine r_imul rfl dX12_bounds_108 ?_
        refine r_eqi (y := nI (4 * ka)) (show 4 * (nI ka) = nI (4 * ka) from pk_mul 4 ka) ?_
        refine r_iload_n rfl dX12_bounds_109 rfl ?_
        refine r_iadd rfl dX12_bounds_110 ?_
        refine r_eqi (y := nI ((4 * ka) + k)) (show (nI (4 * ka)) + (nI k) = nI ((4 * ka) + k) from nI_add (4 * ka) k) ?_
        obtain ⟨g291, f292⟩ := hS275.la LA_425
        refine r_laldv (jn := (4 * ka) + k) (v := g291 ((4 * ka) + k)) rfl dX12_bounds_111 (show 2 ≤ 425 ∧ 425 < 434 by decide) f292 (vp_in_nI (n := (4 * ka) + k) (by omega) (by omega)) (nI_clamp (n := (4 * ka) + k) (by omega)) rfl ?_
        refine r_goto (pc' := 118) rfl dX12_bounds_112 ?_
        exact J282 _
    refine r_icmp_ne (tgt := 75) rfl rfl dX12_bounds_59 (fun c293 => ?_) (fun c293 => ?_)
    · refine r_ldc2 (v := (-1)) rfl dX12_bounds_75 lc_X12_137 ?_
      exact J270 _
    · refine r_aload_n rfl dX12_bounds_62 rfl ?_
      refine r_getv 16 rfl dX12_bounds_63 (show 2 ≤ 420 ∧ 420 < 434 by decide) ((hF 420 (by decide)).trans h5) fl_X12_26 rfl ?_
      refine r_iconst (v := 4) rfl dX12_bounds_66 (by decide) ?_
      refine r_iload_n rfl dX12_bounds_67 rfl ?_
      refine r_imul rfl dX12_bounds_68 ?_
      refine r_eqi (y := nI (4 * ka)) (show 4 * (nI ka) = nI (4 * ka) from pk_mul 4 ka) ?_
      refine r_iload_n rfl dX12_bounds_69 rfl ?_
      refine r_iadd rfl dX12_bounds_70 ?_
      refine r_eqi (y := nI ((4 * ka) + k)) (show (nI (4 * ka)) + (nI k) = nI ((4 * ka) + k) from nI_add (4 * ka) k) ?_
      obtain ⟨g294, f295⟩ := hS.la LA_425
      refine r_laldv (jn := (4 * ka) + k) (v := g294 ((4 * ka) + k)) rfl dX12_bounds_71 (show 2 ≤ 425 ∧ 425 < 434 by decide) f295 (vp_in_nI (n := (4 * ka) + k) (by omega) (by omega)) (nI_clamp (n := (4 * ka) + k) (by omega)) rfl ?_
      refine r_goto (pc' := 78) rfl dX12_bounds_72 ?_
      exact J270 _
set_option maxRecDepth 20000 in
set_option maxHeartbeats 1000000 in
theorem lp_X12_bounds_7 {xs : Nat → Int32} {L d : Nat} {Q : ev_Q} {th : Int32} {tr : Int64} {ty nx tk pl va fa ss wg : Int32} {c m : Nat} {xf1 : Int32} {h0 : ev_H} (h5 : h0 420 = c420 th tr ty nx tk pl va fa (nI c) (nI m) ss wg) (hc : c ≤ 16) (hm : m ≤ 24) : ∀ (n k : Nat), k + n = 4 → ∀ (h : ev_H) (hS : SH h) (hF : KM [427, 428, 429, 430] h0 h) (u3 : Option Value) (hK : ∀ (h : ev_H) (hS : SH h) (hF : KM [427, 428, 429, 430] h0 h) (kx : Int32) (u3 : Option Value), EV xs L (d + 2) 0 0 M_X12_bounds 434 h 132 [some (.ref 420), some (.int xf1), some (.int kx), u3] [] Q), EV xs L (d + 2) 0 0 M_X12_bounds 434 h 7 [some (.ref 420), some (.int xf1), some (.int (nI k)), u3] [] Q := by
  intro n
  induction n with
  | zero =>
    intro k hk h hS hF u3 hK
    refine r_iload_n rfl dX12_bounds_7 rfl ?_
    refine r_iconst (v := 4) rfl dX12_bounds_8 (by decide) ?_
    refine r_icmp_ge (tgt := 132) rfl rfl dX12_bounds_9 (fun _ => ?_) (fun zc => absurd (show 4 ≤ nI k from nI_le (a := 4) (b := k) (by omega) (by omega)) zc)
    exact hK h hS hF (nI k) u3
  | succ n ih =>
    intro k hk h hS hF u3 hK
    refine r_iload_n rfl dX12_bounds_7 rfl ?_
    refine r_iconst (v := 4) rfl dX12_bounds_8 (by decide) ?_
    refine r_icmp_ge (tgt := 132) rfl rfl dX12_bounds_9 (fun zc => absurd zc (show ¬ 4 ≤ nI k from nI_ge (a := k) (b := 4) (by omega) (by omega))) (fun _ => ?_)
    refine r_aload_n rfl dX12_bounds_12 rfl ?_
    refine r_getv 18 rfl dX12_bounds_13 (show 2 ≤ 420 ∧ 420 < 434 by decide) ((hF 420 (by decide)).trans h5) fl_X12_33 rfl ?_
    refine r_iload_n rfl dX12_bounds_16 rfl ?_
    refine r_ldc2 (v := (-1)) rfl dX12_bounds_17 lc_X12_137 ?_
    obtain ⟨g154, f155⟩ := hS.la LA_427
    refine m_last rfl dX12_bounds_20 (show 2 ≤ 427 ∧ 427 < 434 by decide) hS hF (by decide) f155 (vp_in_nI (n := k) (by omega) (by omega)) (fun h156 hS157 hF158 hN159 => ?_)
    refine r_aload_n rfl dX12_bounds_21 rfl ?_
    refine r_getv 19 rfl dX12_bounds_22 (show 2 ≤ 420 ∧ 420 < 434 by decide) ((hF158 420 (by decide)).trans h5) fl_X12_36 rfl ?_
    refine r_iload_n rfl dX12_bounds_25 rfl ?_
    refine r_ldc2 (v := (-1)) rfl dX12_bounds_26 lc_X12_137 ?_
    obtain ⟨g160, f161⟩ := hS157.la LA_428
    refine m_last rfl dX12_bounds_29 (show 2 ≤ 428 ∧ 428 < 434 by decide) hS157 hF158 (by decide) f161 (vp_in_nI (n := k) (by omega) (by omega)) (fun h162 hS163 hF164 hN165 => ?_)
    refine r_iconst (v := 0) rfl dX12_bounds_30 (by decide) ?_
    refine r_istore_n (ls' := [some (.ref 420), some (.int xf1), some (.int (nI k)), some (.int 0)]) rfl dX12_bounds_31 (Nat.le_of_ble_eq_true rfl) rfl ?_
    refine lp_X12_bounds_32 ((hF164 420 (by decide)).trans h5) hc hm (by omega) (c - 0) 0 (by omega) h162 hS163 (KM_rf _)  ?_
    intro h167 hS168 hK169 kx166 
    have hF170 := KM_tr hF164 hK169
    refine r_iinc (y := nI (k + 1)) (ls' := [some (.ref 420), some (.int xf1), some (.int (nI (k + 1))), some (.int kx166)]) rfl dX12_bounds_126 rfl (nI_1 k) (Nat.le_of_ble_eq_true rfl) rfl ?_
    refine r_goto (pc' := 7) rfl dX12_bounds_129 ?_
    exact ih (k + 1) (by omega) h167 hS168 hF170 (some (.int kx166)) hK
set_option maxRecDepth 20000 in
set_option maxHeartbeats 1000000 in
theorem lp_X12_bounds_158 {xs : Nat → Int32} {L d : Nat} {Q : ev_Q} {th : Int32} {tr : Int64} {ty nx tk pl va fa ss wg : Int32} {c m : Nat} {xf1 : Int32} {uf3 : Option Value} {h0 : ev_H} (h5 : h0 420 = c420 th tr ty nx tk pl va fa (nI c) (nI m) ss wg) (hc : c ≤ 16) (hm : m ≤ 24) : ∀ (n k : Nat), k + n = 4 → ∀ (h : ev_H) (hS : SH h) (hF : KM [427, 428, 429, 430] h0 h)  (hK : ∀ (h : ev_H) (hS : SH h) (hF : KM [427, 428, 429, 430] h0 h) (kx : Int32) , EV xs L (d + 2) 0 0 M_X12_bounds 434 h 185 [some (.ref 420), some (.int xf1), some (.int kx), uf3] [] Q), EV xs L (d + 2) 0 0 M_X12_bounds 434 h 158 [some (.ref 420), some (.int xf1), some (.int (nI k)), uf3] [] Q := by
  intro n
  induction n with
  | zero =>
    intro k hk h hS hF  hK
    refine r_iload_n rfl dX12_bounds_158 rfl ?_
    refine r_iconst (v := 4) rfl dX12_bounds_159 (by decide) ?_
    refine r_icmp_ge (tgt := 185) rfl rfl dX12_bounds_160 (fun _ => ?_) (fun zc => absurd (show 4 ≤ nI k from nI_le (a := 4) (b := k) (by omega) (by omega)) zc)
    exact hK h hS hF (nI k) 
  | succ n ih =>
    intro k hk h hS hF  hK
    refine r_iload_n rfl dX12_bounds_158 rfl ?_
    refine r_iconst (v := 4) rfl dX12_bounds_159 (by decide) ?_
    refine r_icmp_ge (tgt := 185) rfl rfl dX12_bounds_160 (fun zc => absurd zc (show ¬ 4 ≤ nI k from nI_ge (a := k) (b := 4) (by omega) (by omega))) (fun _ => ?_)
    refine r_aload_n rfl dX12_bounds_163 rfl ?_
    refine r_getv 21 rfl dX12_bounds_164 (show 2 ≤ 420 ∧ 420 < 434 by decide) ((hF 420 (by decide)).trans h5) fl_X12_42 rfl ?_
    refine r_iload_n rfl dX12_bounds_167 rfl ?_
    refine r_aload_n rfl dX12_bounds_168 rfl ?_
    refine r_getv 21 rfl dX12_bounds_169 (show 2 ≤ 420 ∧ 420 < 434 by decide) ((hF 420 (by decide)).trans h5) fl_X12_42 rfl ?_
    refine r_iload_n rfl dX12_bounds_172 rfl ?_
    obtain ⟨g168, f169⟩ := hS.la LA_430
    refine r_laldv (jn := k) (v := g168 k) rfl dX12_bounds_173 (show 2 ≤ 430 ∧ 430 < 434 by decide) f169 (vp_in_nI (n := k) (by omega) (by omega)) (nI_clamp (n := k) (by omega)) rfl ?_
    refine r_ldc2 (v := (-1)) rfl dX12_bounds_174 lc_X12_137 ?_
    refine r_lxor rfl dX12_bounds_177 ?_
    obtain ⟨g170, f171⟩ := hS.la LA_430
    refine m_last rfl dX12_bounds_178 (show 2 ≤ 430 ∧ 430 < 434 by decide) hS hF (by decide) f171 (vp_in_nI (n := k) (by omega) (by omega)) (fun h172 hS173 hF174 hN175 => ?_)
    refine r_iinc (y := nI (k + 1)) (ls' := [some (.ref 420), some (.int xf1), some (.int (nI (k + 1))), uf3]) rfl dX12_bounds_179 rfl (nI_1 k) (Nat.le_of_ble_eq_true rfl) rfl ?_
    refine r_goto (pc' := 158) rfl dX12_bounds_182 ?_
    exact ih (k + 1) (by omega) h172 hS173 hF174  hK
set_option maxRecDepth 20000 in
set_option maxHeartbeats 1000000 in
theorem s_X12_bounds {xs : Nat → Int32} {L d : Nat} {h : ev_H} {th : Int32} {tr : Int64} {ty nx tk pl va fa ss wg : Int32} {c m : Nat} (hS : SH h) (h5 : h 420 = c420 th tr ty nx tk pl va fa (nI c) (nI m) ss wg) (hc : c ≤ 16) (hm : m ≤ 24) : EV xs L (d + 2) 0 0 M_X12_bounds 434 h 0 [some (.ref 420), none, none, none] [] (fun sz' h' r => sz' = 434 ∧ SH h' ∧ KM [427, 428, 429, 430] h h' ∧ r = []) := by
  refine r_aload_n rfl dX12_bounds_0 rfl ?_
  refine cl_X12_133 rfl rfl dX12_bounds_1 (show 2 ≤ 420 ∧ 420 < 434 by decide).1 (show 2 ≤ 420 ∧ 420 < 434 by decide).2 (((KM_rf (Mod := [427, 428, 429, 430]) h) 420 (by decide)).trans h5) (Nat.le_of_ble_eq_true rfl) (s_X12_shared hS (((KM_rf (Mod := [427, 428, 429, 430]) h) 420 (by decide)).trans h5) hc hm) ?_
  rintro _ h51 _ ⟨rfl, e52, x53, rfl⟩
  replace e52 := e52.symm
  subst e52
  refine r_istore_n (ls' := [some (.ref 420), some (.int x53), none, none]) rfl dX12_bounds_4 (Nat.le_of_ble_eq_true rfl) rfl ?_
  refine r_iconst (v := 0) rfl dX12_bounds_5 (by decide) ?_
  refine r_istore_n (ls' := [some (.ref 420), some (.int x53), some (.int 0), none]) rfl dX12_bounds_6 (Nat.le_of_ble_eq_true rfl) rfl ?_
  refine lp_X12_bounds_7 (((KM_rf (Mod := [427, 428, 429, 430]) h) 420 (by decide)).trans h5) hc hm (4 - 0) 0 (by omega) h hS (KM_rf _) none ?_
  intro h56 hS57 hK58 kx54 w55
  have hF59 := KM_tr (KM_rf (Mod := [427, 428, 429, 430]) h) hK58
  refine r_aload_n rfl dX12_bounds_132 rfl ?_
  refine r_getv 18 rfl dX12_bounds_133 (show 2 ≤ 420 ∧ 420 < 434 by decide) ((hF59 420 (by decide)).trans h5) fl_X12_33 rfl ?_
  refine r_aload_n rfl dX12_bounds_136 rfl ?_
  refine r_getv 20 rfl dX12_bounds_137 (show 2 ≤ 420 ∧ 420 < 434 by decide) ((hF59 420 (by decide)).trans h5) fl_X12_39 rfl ?_
  refine r_iload_n rfl dX12_bounds_140 rfl ?_
  refine cl_X12_139 rfl rfl dX12_bounds_141 (Nat.le_of_ble_eq_true rfl) (s_X12_spreads hS57 LA_427 LA_429) ?_
  rintro _ h60 _ ⟨rfl, hS61, hK62, rfl⟩
  have hF63 := KM_tr hF59 (KM_sb (by decide) hK62)
  refine r_aload_n rfl dX12_bounds_144 rfl ?_
  refine r_getv 19 rfl dX12_bounds_145 (show 2 ≤ 420 ∧ 420 < 434 by decide) ((hF63 420 (by decide)).trans h5) fl_X12_36 rfl ?_
  refine r_aload_n rfl dX12_bounds_148 rfl ?_
  refine r_getv 21 rfl dX12_bounds_149 (show 2 ≤ 420 ∧ 420 < 434 by decide) ((hF63 420 (by decide)).trans h5) fl_X12_42 rfl ?_
  refine r_iload_n rfl dX12_bounds_152 rfl ?_
  refine cl_X12_139 rfl rfl dX12_bounds_153 (Nat.le_of_ble_eq_true rfl) (s_X12_spreads hS61 LA_428 LA_430) ?_
  rintro _ h64 _ ⟨rfl, hS65, hK66, rfl⟩
  have hF67 := KM_tr hF63 (KM_sb (by decide) hK66)
  refine r_iconst (v := 0) rfl dX12_bounds_156 (by decide) ?_
  refine r_istore_n (ls' := [some (.ref 420), some (.int x53), some (.int 0), w55]) rfl dX12_bounds_157 (Nat.le_of_ble_eq_true rfl) rfl ?_
  refine lp_X12_bounds_158 ((hF67 420 (by decide)).trans h5) hc hm (4 - 0) 0 (by omega) h64 hS65 (KM_rf _)  ?_
  intro h69 hS70 hK71 kx68 
  have hF72 := KM_tr hF67 hK71
  exact r_ret dX12_bounds_185 (rt_v rfl) ⟨rfl, hS70, hF72, rfl⟩
set_option maxRecDepth 20000 in
set_option maxHeartbeats 1000000 in
theorem lp_X12_takes_8 {xs : Nat → Int32} {L d : Nat} {Q : ev_Q} {th : Int32} {tr : Int64} {ty nx tk pl va fa ss wg : Int32} {c m : Nat} {q b : Nat} {h0 : ev_H} (h5 : h0 420 = c420 th tr ty nx tk pl va fa (nI c) (nI m) ss wg) (hc : c ≤ 16) (hm : m ≤ 24) (hq : q ≤ 5) (hb : LA b 4) (hn : 420 ∉ [b]) : ∀ (n k : Nat), k + n = 4 → ∀ (h : ev_H) (hS : SH h) (hF : KM [b] h0 h)  (hK : ∀ (h : ev_H) (hS : SH h) (hF : KM [b] h0 h) (kx : Int32) , EV xs L (d + 1) 0 0 M_X12_takes 434 h 96 [some (.ref 420), some (.int (nI q)), some (.ref b), some (.int (-9)), some (.int kx)] [] Q), EV xs L (d + 1) 0 0 M_X12_takes 434 h 8 [some (.ref 420), some (.int (nI q)), some (.ref b), some (.int (-9)), some (.int (nI k))] [] Q := by
  intro n
  induction n with
  | zero =>
    intro k hk h hS hF  hK
    refine r_iload rfl dX12_takes_8 rfl ?_
    refine r_iconst (v := 4) rfl dX12_takes_10 (by decide) ?_
    refine r_icmp_ge (tgt := 96) rfl rfl dX12_takes_11 (fun _ => ?_) (fun zc => absurd (show 4 ≤ nI k from nI_le (a := 4) (b := k) (by omega) (by omega)) zc)
    exact hK h hS hF (nI k) 
  | succ n ih =>
    intro k hk h hS hF  hK
    refine r_iload rfl dX12_takes_8 rfl ?_
    refine r_iconst (v := 4) rfl dX12_takes_10 (by decide) ?_
    refine r_icmp_ge (tgt := 96) rfl rfl dX12_takes_11 (fun zc => absurd zc (show ¬ 4 ≤ nI k from nI_ge (a := k) (b := 4) (by omega) (by omega))) (fun _ => ?_)
    refine r_aload_n rfl dX12_takes_14 rfl ?_
    refine r_iload rfl dX12_takes_15 rfl ?_
    refine r_iload_n rfl dX12_takes_17 rfl ?_
    refine r_iconst (v := 3) rfl dX12_takes_18 (by decide) ?_
    have J156 : ∀ v157 : Int64, EV xs L (d + 1) 0 0 M_X12_takes 434 h 89 [some (.ref 420), some (.int (nI q)), some (.ref b), some (.int (-9)), some (.int (nI k))] (.long v157 :: .int (nI k) :: .ref b :: []) Q := by
      intro v157
      obtain ⟨g158, f159⟩ := hS.la hb
      refine m_last rfl dX12_takes_89 hb.1 hS hF (List.mem_singleton.mpr rfl) f159 (vp_in_nI (n := k) (by omega) (by omega)) (fun h160 hS161 hF162 hN163 => ?_)
      refine r_iinc (y := nI (k + 1)) (ls' := [some (.ref 420), some (.int (nI q)), some (.ref b), some (.int (-9)), some (.int (nI (k + 1)))]) rfl dX12_takes_90 rfl (nI_1 k) (Nat.le_of_ble_eq_true rfl) rfl ?_
      refine r_goto (pc' := 8) rfl dX12_takes_93 ?_
      exact ih (k + 1) (by omega) h160 hS161 hF162  hK
    refine r_icmp_ne (tgt := 32) rfl rfl dX12_takes_19 (fun c164 => ?_) (fun c164 => ?_)
    · have q165 : ¬ q = 3 := (not_congr (nI_eq (a := q) (b := 3)  (by omega) (by omega))).mp c164
      refine r_iload_n rfl dX12_takes_32 rfl ?_
      refine r_iconst (v := 4) rfl dX12_takes_33 (by decide) ?_
      refine r_icmp_ne (tgt := 47) rfl rfl dX12_takes_34 (fun c166 => ?_) (fun c166 => ?_)
      · have q167 : ¬ q = 4 := (not_congr (nI_eq (a := q) (b := 4)  (by omega) (by omega))).mp c166
        refine r_iload_n rfl dX12_takes_47 rfl ?_
        refine r_iconst (v := 5) rfl dX12_takes_48 (by decide) ?_
        refine r_icmp_ne (tgt := 62) rfl rfl dX12_takes_49 (fun c168 => ?_) (fun c168 => ?_)
        · have q169 : ¬ q = 5 := (not_congr (nI_eq (a := q) (b := 5)  (by omega) (by omega))).mp c168
          refine r_iload_n rfl dX12_takes_62 rfl ?_
          refine r_bipush (v := (-9)) rfl dX12_takes_63 (by decide) ?_
          refine r_icmp_ne (tgt := 72) rfl rfl dX12_takes_65 (fun zc => absurd zc (by decide)) (fun _ => ?_)
          refine r_lconst (v := 0) rfl dX12_takes_68 (by decide) ?_
          refine r_goto (pc' := 89) rfl dX12_takes_69 ?_
          exact J156 _
        · have q170 : q = 5 := (nI_eq (a := q) (b := 5) (by omega) (by omega)).mp c168
          refine r_aload_n rfl dX12_takes_52 rfl ?_
          refine r_getv 22 rfl dX12_takes_53 (show 2 ≤ 420 ∧ 420 < 434 by decide) ((hF 420 hn).trans h5) fl_X12_45 rfl ?_
          refine r_iload rfl dX12_takes_56 rfl ?_
          obtain ⟨g171, f172⟩ := hS.la LA_431
          refine r_laldv (jn := k) (v := g171 k) rfl dX12_takes_58 (show 2 ≤ 431 ∧ 431 < 434 by decide) f172 (vp_in_nI (n := k) (by omega) (by omega)) (nI_clamp (n := k) (by omega)) rfl ?_
          refine r_goto (pc' := 89) rfl dX12_takes_59 ?_
          exact J156 _
      · have q173 : q = 4 := (nI_eq (a := q) (b := 4) (by omega) (by omega)).mp c166
        refine r_aload_n rfl dX12_takes_37 rfl ?_
        refine r_getv 21 rfl dX12_takes_38 (show 2 ≤ 420 ∧ 420 < 434 by decide) ((hF 420 hn).trans h5) fl_X12_42 rfl ?_
        refine r_iload rfl dX12_takes_41 rfl ?_
        obtain ⟨g174, f175⟩ := hS.la LA_430
        refine r_laldv (jn := k) (v := g174 k) rfl dX12_takes_43 (show 2 ≤ 430 ∧ 430 < 434 by decide) f175 (vp_in_nI (n := k) (by omega) (by omega)) (nI_clamp (n := k) (by omega)) rfl ?_
        refine r_goto (pc' := 89) rfl dX12_takes_44 ?_
        exact J156 _
    · have q176 : q = 3 := (nI_eq (a := q) (b := 3) (by omega) (by omega)).mp c164
      refine r_aload_n rfl dX12_takes_22 rfl ?_
      refine r_getv 20 rfl dX12_takes_23 (show 2 ≤ 420 ∧ 420 < 434 by decide) ((hF 420 hn).trans h5) fl_X12_39 rfl ?_
      refine r_iload rfl dX12_takes_26 rfl ?_
      obtain ⟨g177, f178⟩ := hS.la LA_429
      refine r_laldv (jn := k) (v := g177 k) rfl dX12_takes_28 (show 2 ≤ 429 ∧ 429 < 434 by decide) f178 (vp_in_nI (n := k) (by omega) (by omega)) (nI_clamp (n := k) (by omega)) rfl ?_
      refine r_goto (pc' := 89) rfl dX12_takes_29 ?_
      exact J156 _
set_option maxRecDepth 20000 in
set_option maxHeartbeats 1000000 in
theorem lp_X12_takes_8b {xs : Nat → Int32} {L d : Nat} {Q : ev_Q} {th : Int32} {tr : Int64} {ty nx tk pl va fa ss wg : Int32} {c m : Nat} {q b : Nat} {j54 : Nat} {h0 : ev_H} (h5 : h0 420 = c420 th tr ty nx tk pl va fa (nI c) (nI m) ss wg) (hc : c ≤ 16) (hm : m ≤ 24) (hq : q ≤ 5) (hb : LA b 4) (hn : 420 ∉ [b]) (hb_j54 : j54 < c + m) : ∀ (n k : Nat), k + n = 4 → ∀ (h : ev_H) (hS : SH h) (hF : KM [b] h0 h)  (hK : ∀ (h : ev_H) (hS : SH h) (hF : KM [b] h0 h) (kx : Int32) , EV xs L (d + 1) 0 0 M_X12_takes 434 h 96 [some (.ref 420), some (.int (nI q)), some (.ref b), some (.int (nI j54)), some (.int kx)] [] Q), EV xs L (d + 1) 0 0 M_X12_takes 434 h 8 [some (.ref 420), some (.int (nI q)), some (.ref b), some (.int (nI j54)), some (.int (nI k))] [] Q := by
  intro n
  induction n with
  | zero =>
    intro k hk h hS hF  hK
    refine r_iload rfl dX12_takes_8 rfl ?_
    refine r_iconst (v := 4) rfl dX12_takes_10 (by decide) ?_
    refine r_icmp_ge (tgt := 96) rfl rfl dX12_takes_11 (fun _ => ?_) (fun zc => absurd (show 4 ≤ nI k from nI_le (a := 4) (b := k) (by omega) (by omega)) zc)
    exact hK h hS hF (nI k) 
  | succ n ih =>
    intro k hk h hS hF  hK
    refine r_iload rfl dX12_takes_8 rfl ?_
    refine r_iconst (v := 4) rfl dX12_takes_10 (by decide) ?_
    refine r_icmp_ge (tgt := 96) rfl rfl dX12_takes_11 (fun zc => absurd zc (show ¬ 4 ≤ nI k from nI_ge (a := k) (b := 4) (by omega) (by omega))) (fun _ => ?_)
    refine r_aload_n rfl dX12_takes_14 rfl ?_
    refine r_iload rfl dX12_takes_15 rfl ?_
    refine r_iload_n rfl dX12_takes_17 rfl ?_
    refine r_iconst (v := 3) rfl dX12_takes_18 (by decide) ?_
    have J164 : ∀ v165 : Int64, EV xs L (d + 1) 0 0 M_X12_takes 434 h 89 [some (.ref 420), some (.int (nI q)), some (.ref b), some (.int (nI j54)), some (.int (nI k))] (.long v165 :: .int (nI k) :: .ref b :: []) Q := by
      intro v165
      obtain ⟨g166, f167⟩ := hS.la hb
      refine m_last rfl dX12_takes_89 hb.1 hS hF (List.mem_singleton.mpr rfl) f167 (vp_in_nI (n := k) (by omega) (by omega)) (fun h168 hS169 hF170 hN171 => ?_)
      refine r_iinc (y := nI (k + 1)) (ls' := [some (.ref 420), some (.int (nI q)), some (.ref b), some (.int (nI j54)), some (.int (nI (k + 1)))]) rfl dX12_takes_90 rfl (nI_1 k) (Nat.le_of_ble_eq_true rfl) rfl ?_
      refine r_goto (pc' := 8) rfl dX12_takes_93 ?_
      exact ih (k + 1) (by omega) h168 hS169 hF170  hK
    refine r_icmp_ne (tgt := 32) rfl rfl dX12_takes_19 (fun c172 => ?_) (fun c172 => ?_)
    · have q173 : ¬ q = 3 := (not_congr (nI_eq (a := q) (b := 3)  (by omega) (by omega))).mp c172
      refine r_iload_n rfl dX12_takes_32 rfl ?_
      refine r_iconst (v := 4) rfl dX12_takes_33 (by decide) ?_
      refine r_icmp_ne (tgt := 47) rfl rfl dX12_takes_34 (fun c174 => ?_) (fun c174 => ?_)
      · have q175 : ¬ q = 4 := (not_congr (nI_eq (a := q) (b := 4)  (by omega) (by omega))).mp c174
        refine r_iload_n rfl dX12_takes_47 rfl ?_
        refine r_iconst (v := 5) rfl dX12_takes_48 (by decide) ?_
        refine r_icmp_ne (tgt := 62) rfl rfl dX12_takes_49 (fun c176 => ?_) (fun c176 => ?_)
        · have q177 : ¬ q = 5 := (not_congr (nI_eq (a := q) (b := 5)  (by omega) (by omega))).mp c176
          refine r_iload_n rfl dX12_takes_62 rfl ?_
          refine r_bipush (v := (-9)) rfl dX12_takes_63 (by decide) ?_
          refine r_icmp_ne (tgt := 72) rfl rfl dX12_takes_65 (fun c178 => ?_) (fun c178 => ?_)
          · refine r_aload_n rfl dX12_takes_72 rfl ?_
            refine r_getv 17 rfl dX12_takes_73 (show 2 ≤ 420 ∧ 420 < 434 by decide) ((hF 420 hn).trans h5) fl_X12_30 rfl ?_
            refine r_sipush (v := 160) rfl dX12_takes_76 (by decide) ?_
            refine r_iload_n rfl dX12_takes_79 rfl ?_
            refine r_imul rfl dX12_takes_80 ?_
            refine r_eqi (y := nI (160 * q)) (show 160 * (nI q) = nI (160 * q) from pk_mul 160 q) ?_
            refine r_iconst (v := 4) rfl dX12_takes_81 (by decide) ?_
            refine r_iload_n rfl dX12_takes_82 rfl ?_
            refine r_imul rfl dX12_takes_83 ?_
            refine r_eqi (y := nI (4 * j54)) (show 4 * (nI j54) = nI (4 * j54) from pk_mul 4 j54) ?_
            refine r_iadd rfl dX12_takes_84 ?_
            refine r_eqi (y := nI ((160 * q) + (4 * j54))) (show (nI (160 * q)) + (nI (4 * j54)) = nI ((160 * q) + (4 * j54)) from nI_add (160 * q) (4 * j54)) ?_
            refine r_iload rfl dX12_takes_85 rfl ?_
            refine r_iadd rfl dX12_takes_87 ?_
            refine r_eqi (y := nI (((160 * q) + (4 * j54)) + k)) (show (nI ((160 * q) + (4 * j54))) + (nI k) = nI (((160 * q) + (4 * j54)) + k) from nI_add ((160 * q) + (4 * j54)) k) ?_
            obtain ⟨g179, f180⟩ := hS.la LA_426
            refine r_laldv (jn := ((160 * q) + (4 * j54)) + k) (v := g179 (((160 * q) + (4 * j54)) + k)) rfl dX12_takes_88 (show 2 ≤ 426 ∧ 426 < 434 by decide) f180 (vp_in_nI (n := ((160 * q) + (4 * j54)) + k) (by omega) (by omega)) (nI_clamp (n := ((160 * q) + (4 * j54)) + k) (by omega)) rfl ?_
            exact J164 _
          · refine r_lconst (v := 0) rfl dX12_takes_68 (by decide) ?_
            refine r_goto (pc' := 89) rfl dX12_takes_69 ?_
            exact J164 _
        · have q181 : q = 5 := (nI_eq (a := q) (b := 5) (by omega) (by omega)).mp c176
          refine r_aload_n rfl dX12_takes_52 rfl ?_
          refine r_getv 22 rfl dX12_takes_53 (show 2 ≤ 420 ∧ 420 < 434 by decide) ((hF 420 hn).trans h5) fl_X12_45 rfl ?_
          refine r_iload rfl dX12_takes_56 rfl ?_
          obtain ⟨g182, f183⟩ := hS.la LA_431
          refine r_laldv (jn := k) (v := g182 k) rfl dX12_takes_58 (show 2 ≤ 431 ∧ 431 < 434 by decide) f183 (vp_in_nI (n := k) (by omega) (by omega)) (nI_clamp (n := k) (by omega)) rfl ?_
          refine r_goto (pc' := 89) rfl dX12_takes_59 ?_
          exact J164 _
      · have q184 : q = 4 := (nI_eq (a := q) (b := 4) (by omega) (by omega)).mp c174
        refine r_aload_n rfl dX12_takes_37 rfl ?_
        refine r_getv 21 rfl dX12_takes_38 (show 2 ≤ 420 ∧ 420 < 434 by decide) ((hF 420 hn).trans h5) fl_X12_42 rfl ?_
        refine r_iload rfl dX12_takes_41 rfl ?_
        obtain ⟨g185, f186⟩ := hS.la LA_430
        refine r_laldv (jn := k) (v := g185 k) rfl dX12_takes_43 (show 2 ≤ 430 ∧ 430 < 434 by decide) f186 (vp_in_nI (n := k) (by omega) (by omega)) (nI_clamp (n := k) (by omega)) rfl ?_
        refine r_goto (pc' := 89) rfl dX12_takes_44 ?_
        exact J164 _
    · have q187 : q = 3 := (nI_eq (a := q) (b := 3) (by omega) (by omega)).mp c172
      refine r_aload_n rfl dX12_takes_22 rfl ?_
      refine r_getv 20 rfl dX12_takes_23 (show 2 ≤ 420 ∧ 420 < 434 by decide) ((hF 420 hn).trans h5) fl_X12_39 rfl ?_
      refine r_iload rfl dX12_takes_26 rfl ?_
      obtain ⟨g188, f189⟩ := hS.la LA_429
      refine r_laldv (jn := k) (v := g188 k) rfl dX12_takes_28 (show 2 ≤ 429 ∧ 429 < 434 by decide) f189 (vp_in_nI (n := k) (by omega) (by omega)) (nI_clamp (n := k) (by omega)) rfl ?_
      refine r_goto (pc' := 89) rfl dX12_takes_29 ?_
      exact J164 _
set_option maxRecDepth 20000 in
set_option maxHeartbeats 1000000 in
theorem s_X12_takes {xs : Nat → Int32} {L d : Nat} {h : ev_H} {th : Int32} {tr : Int64} {ty nx tk pl va fa ss wg : Int32} {c m : Nat} {q b : Nat} (hS : SH h) (h5 : h 420 = c420 th tr ty nx tk pl va fa (nI c) (nI m) ss wg) (hc : c ≤ 16) (hm : m ≤ 24) (hq : q ≤ 5) (hb : LA b 4) (hn : 420 ∉ [b]) : EV xs L (d + 1) 0 0 M_X12_takes 434 h 0 [some (.ref 420), some (.int (nI q)), some (.ref b), none, none] [] (fun sz' h' r => sz' = 434 ∧ SH h' ∧ KM [b] h h' ∧ ∃ x : Int32, (x = 0 ∨ x = 1) ∧ r = [.int x]) := by
  refine r_aload_n rfl dX12_takes_0 rfl ?_
  refine cl_X12_154 rfl rfl dX12_takes_1 (show 2 ≤ 420 ∧ 420 < 434 by decide).1 (show 2 ≤ 420 ∧ 420 < 434 by decide).2 (((KM_rf (Mod := [b]) h) 420 hn).trans h5) (Nat.le_of_ble_eq_true rfl) (s_X12_ending hS (((KM_rf (Mod := [b]) h) 420 hn).trans h5) hc hm) ?_
  rintro _ h51 _ ⟨rfl, e52, H53⟩
  replace e52 := e52.symm
  subst e52
  rcases H53 with rfl | ⟨j54, q55, rfl⟩
  · refine r_istore_n (ls' := [some (.ref 420), some (.int (nI q)), some (.ref b), some (.int (-9)), none]) rfl dX12_takes_4 (Nat.le_of_ble_eq_true rfl) rfl ?_
    refine r_iconst (v := 0) rfl dX12_takes_5 (by decide) ?_
    refine r_istore (ls' := [some (.ref 420), some (.int (nI q)), some (.ref b), some (.int (-9)), some (.int 0)]) rfl dX12_takes_6 (Nat.le_of_ble_eq_true rfl) rfl ?_
    refine lp_X12_takes_8 (((KM_rf (Mod := [b]) h) 420 hn).trans h5) hc hm hq hb hn (4 - 0) 0 (by omega) h hS (KM_rf _)  ?_
    intro h57 hS58 hK59 kx56 
    have hF60 := KM_tr (KM_rf (Mod := [b]) h) hK59
    refine r_iload_n rfl dX12_takes_96 rfl ?_
    refine r_iconst (v := 2) rfl dX12_takes_97 (by decide) ?_
    refine r_icmp_gt (tgt := 107) rfl rfl dX12_takes_98 (fun c61 => ?_) (fun c61 => ?_)
    · have q62 : 2 < q := (nI_ltI (a := 2) (b := q) (by omega) (by omega)).mp c61
      refine r_iconst (v := 1) rfl dX12_takes_107 (by decide) ?_
      refine r_goto (pc' := 112) rfl dX12_takes_108 ?_
      exact r_ret dX12_takes_112 (rt_z rfl (Or.inr rfl)) ⟨rfl, hS58, hF60, ⟨_, (Or.inr rfl), rfl⟩⟩
    · have q63 : ¬ 2 < q := fun z => c61 ((nI_ltI (a := 2) (b := q) (by omega) (by omega)).mpr z)
      refine r_iload_n rfl dX12_takes_101 rfl ?_
      refine r_bipush (v := (-9)) rfl dX12_takes_102 (by decide) ?_
      refine r_icmp_eq (tgt := 111) rfl rfl dX12_takes_104 (fun _ => ?_) (fun zc => absurd zc (by decide))
      refine r_iconst (v := 0) rfl dX12_takes_111 (by decide) ?_
      exact r_ret dX12_takes_112 (rt_z rfl (Or.inl rfl)) ⟨rfl, hS58, hF60, ⟨_, (Or.inl rfl), rfl⟩⟩
  · refine r_istore_n (ls' := [some (.ref 420), some (.int (nI q)), some (.ref b), some (.int (nI j54)), none]) rfl dX12_takes_4 (Nat.le_of_ble_eq_true rfl) rfl ?_
    refine r_iconst (v := 0) rfl dX12_takes_5 (by decide) ?_
    refine r_istore (ls' := [some (.ref 420), some (.int (nI q)), some (.ref b), some (.int (nI j54)), some (.int 0)]) rfl dX12_takes_6 (Nat.le_of_ble_eq_true rfl) rfl ?_
    refine lp_X12_takes_8b (((KM_rf (Mod := [b]) h) 420 hn).trans h5) hc hm hq hb hn (by omega) (4 - 0) 0 (by omega) h hS (KM_rf _)  ?_
    intro h65 hS66 hK67 kx64 
    have hF68 := KM_tr (KM_rf (Mod := [b]) h) hK67
    refine r_iload_n rfl dX12_takes_96 rfl ?_
    refine r_iconst (v := 2) rfl dX12_takes_97 (by decide) ?_
    refine r_icmp_gt (tgt := 107) rfl rfl dX12_takes_98 (fun c69 => ?_) (fun c69 => ?_)
    · have q70 : 2 < q := (nI_ltI (a := 2) (b := q) (by omega) (by omega)).mp c69
      refine r_iconst (v := 1) rfl dX12_takes_107 (by decide) ?_
      refine r_goto (pc' := 112) rfl dX12_takes_108 ?_
      exact r_ret dX12_takes_112 (rt_z rfl (Or.inr rfl)) ⟨rfl, hS66, hF68, ⟨_, (Or.inr rfl), rfl⟩⟩
    · have q71 : ¬ 2 < q := fun z => c69 ((nI_ltI (a := 2) (b := q) (by omega) (by omega)).mpr z)
      refine r_iload_n rfl dX12_takes_101 rfl ?_
      refine r_bipush (v := (-9)) rfl dX12_takes_102 (by decide) ?_
      refine r_icmp_eq (tgt := 111) rfl rfl dX12_takes_104 (fun c72 => ?_) (fun c72 => ?_)
      · refine r_iconst (v := 0) rfl dX12_takes_111 (by decide) ?_
        exact r_ret dX12_takes_112 (rt_z rfl (Or.inl rfl)) ⟨rfl, hS66, hF68, ⟨_, (Or.inl rfl), rfl⟩⟩
      · refine r_iconst (v := 1) rfl dX12_takes_107 (by decide) ?_
        refine r_goto (pc' := 112) rfl dX12_takes_108 ?_
        exact r_ret dX12_takes_112 (rt_z rfl (Or.inr rfl)) ⟨rfl, hS66, hF68, ⟨_, (Or.inr rfl), rfl⟩⟩
