theorem dX12_clauses_0 : decode cX12_clauses 0 = .ok (.aload_n 0, 1) := by decide +kernel
theorem dX12_clauses_1 : decode cX12_clauses 1 = .ok (.iconst 0, 1) := by decide +kernel
theorem dX12_clauses_2 : decode cX12_clauses 2 = .ok (.putfield 57, 3) := by decide +kernel
theorem dX12_clauses_5 : decode cX12_clauses 5 = .ok (.iconst 0, 1) := by decide +kernel
theorem dX12_clauses_6 : decode cX12_clauses 6 = .ok (.istore_n 1, 1) := by decide +kernel
theorem dX12_clauses_7 : decode cX12_clauses 7 = .ok (.aload_n 0, 1) := by decide +kernel
theorem dX12_clauses_8 : decode cX12_clauses 8 = .ok (.invokevirtual 106, 3) := by decide +kernel
theorem dX12_clauses_11 : decode cX12_clauses 11 = .ok (.aload_n 0, 1) := by decide +kernel
theorem dX12_clauses_12 : decode cX12_clauses 12 = .ok (.invokevirtual 92, 3) := by decide +kernel
theorem dX12_clauses_15 : decode cX12_clauses 15 = .ok (.ifCond .eq 45, 3) := by decide +kernel
theorem dX12_clauses_18 : decode cX12_clauses 18 = .ok (.aload_n 0, 1) := by decide +kernel
theorem dX12_clauses_19 : decode cX12_clauses 19 = .ok (.getfield 76, 3) := by decide +kernel
theorem dX12_clauses_22 : decode cX12_clauses 22 = .ok (.ifCond .eq 38, 3) := by decide +kernel
theorem dX12_clauses_25 : decode cX12_clauses 25 = .ok (.aload_n 0, 1) := by decide +kernel
theorem dX12_clauses_26 : decode cX12_clauses 26 = .ok (.iload_n 1, 1) := by decide +kernel
theorem dX12_clauses_27 : decode cX12_clauses 27 = .ok (.bipush 16, 2) := by decide +kernel
theorem dX12_clauses_29 : decode cX12_clauses 29 = .ok (.if_icmp .ge 7, 3) := by decide +kernel
theorem dX12_clauses_32 : decode cX12_clauses 32 = .ok (.iconst 1, 1) := by decide +kernel
theorem dX12_clauses_33 : decode cX12_clauses 33 = .ok (.goto 4, 3) := by decide +kernel
theorem dX12_clauses_36 : decode cX12_clauses 36 = .ok (.iconst 0, 1) := by decide +kernel
theorem dX12_clauses_37 : decode cX12_clauses 37 = .ok (.invokevirtual 99, 3) := by decide +kernel
theorem dX12_clauses_40 : decode cX12_clauses 40 = .ok (.aload_n 0, 1) := by decide +kernel
theorem dX12_clauses_41 : decode cX12_clauses 41 = .ok (.invokevirtual 92, 3) := by decide +kernel
theorem dX12_clauses_44 : decode cX12_clauses 44 = .ok (.ifCond .eq (-33), 3) := by decide +kernel
theorem dX12_clauses_47 : decode cX12_clauses 47 = .ok (.aload_n 0, 1) := by decide +kernel
theorem dX12_clauses_48 : decode cX12_clauses 48 = .ok (.iconst 3, 1) := by decide +kernel
theorem dX12_clauses_49 : decode cX12_clauses 49 = .ok (.iload_n 1, 1) := by decide +kernel
theorem dX12_clauses_50 : decode cX12_clauses 50 = .ok (.imul, 1) := by decide +kernel
theorem dX12_clauses_51 : decode cX12_clauses 51 = .ok (.invokevirtual 109, 3) := by decide +kernel
theorem dX12_clauses_54 : decode cX12_clauses 54 = .ok (.iinc 1 1, 3) := by decide +kernel
theorem dX12_clauses_57 : decode cX12_clauses 57 = .ok (.goto (-46), 3) := by decide +kernel
theorem dX12_clauses_60 : decode cX12_clauses 60 = .ok (.aload_n 0, 1) := by decide +kernel
theorem dX12_clauses_61 : decode cX12_clauses 61 = .ok (.invokevirtual 92, 3) := by decide +kernel
theorem dX12_clauses_64 : decode cX12_clauses 64 = .ok (.ifCond .ne 11, 3) := by decide +kernel
theorem dX12_clauses_67 : decode cX12_clauses 67 = .ok (.bipush (-10), 2) := by decide +kernel
theorem dX12_clauses_69 : decode cX12_clauses 69 = .ok (.aload_n 0, 1) := by decide +kernel
theorem dX12_clauses_70 : decode cX12_clauses 70 = .ok (.getfield 89, 3) := by decide +kernel
theorem dX12_clauses_73 : decode cX12_clauses 73 = .ok (.isub, 1) := by decide +kernel
theorem dX12_clauses_74 : decode cX12_clauses 74 = .ok (.ireturn, 1) := by decide +kernel
theorem dX12_clauses_75 : decode cX12_clauses 75 = .ok (.iconst 0, 1) := by decide +kernel
theorem dX12_clauses_76 : decode cX12_clauses 76 = .ok (.istore_n 2, 1) := by decide +kernel
theorem dX12_clauses_77 : decode cX12_clauses 77 = .ok (.iload_n 2, 1) := by decide +kernel
theorem dX12_clauses_78 : decode cX12_clauses 78 = .ok (.iload_n 1, 1) := by decide +kernel
theorem dX12_clauses_79 : decode cX12_clauses 79 = .ok (.if_icmp .ge 107, 3) := by decide +kernel
theorem dX12_clauses_82 : decode cX12_clauses 82 = .ok (.aload_n 0, 1) := by decide +kernel
theorem dX12_clauses_83 : decode cX12_clauses 83 = .ok (.getfield 17, 3) := by decide +kernel
theorem dX12_clauses_86 : decode cX12_clauses 86 = .ok (.bipush 6, 2) := by decide +kernel
theorem dX12_clauses_88 : decode cX12_clauses 88 = .ok (.iload_n 2, 1) := by decide +kernel
theorem dX12_clauses_89 : decode cX12_clauses 89 = .ok (.imul, 1) := by decide +kernel
theorem dX12_clauses_90 : decode cX12_clauses 90 = .ok (.aload_n 0, 1) := by decide +kernel
theorem dX12_clauses_91 : decode cX12_clauses 91 = .ok (.getfield 20, 3) := by decide +kernel
theorem dX12_clauses_94 : decode cX12_clauses 94 = .ok (.iconst 3, 1) := by decide +kernel
theorem dX12_clauses_95 : decode cX12_clauses 95 = .ok (.iload_n 2, 1) := by decide +kernel
theorem dX12_clauses_96 : decode cX12_clauses 96 = .ok (.imul, 1) := by decide +kernel
theorem dX12_clauses_97 : decode cX12_clauses 97 = .ok (.iaload, 1) := by decide +kernel
theorem dX12_clauses_98 : decode cX12_clauses 98 = .ok (.iastore, 1) := by decide +kernel
theorem dX12_clauses_99 : decode cX12_clauses 99 = .ok (.aload_n 0, 1) := by decide +kernel
theorem dX12_clauses_100 : decode cX12_clauses 100 = .ok (.getfield 17, 3) := by decide +kernel
theorem dX12_clauses_103 : decode cX12_clauses 103 = .ok (.bipush 6, 2) := by decide +kernel
theorem dX12_clauses_105 : decode cX12_clauses 105 = .ok (.iload_n 2, 1) := by decide +kernel
theorem dX12_clauses_106 : decode cX12_clauses 106 = .ok (.imul, 1) := by decide +kernel
theorem dX12_clauses_107 : decode cX12_clauses 107 = .ok (.iconst 1, 1) := by decide +kernel
theorem dX12_clauses_108 : decode cX12_clauses 108 = .ok (.iadd, 1) := by decide +kernel
theorem dX12_clauses_109 : decode cX12_clauses 109 = .ok (.aload_n 0, 1) := by decide +kernel
theorem dX12_clauses_110 : decode cX12_clauses 110 = .ok (.getfield 20, 3) := by decide +kernel
theorem dX12_clauses_113 : decode cX12_clauses 113 = .ok (.iconst 3, 1) := by decide +kernel
theorem dX12_clauses_114 : decode cX12_clauses 114 = .ok (.iload_n 2, 1) := by decide +kernel
theorem dX12_clauses_115 : decode cX12_clauses 115 = .ok (.imul, 1) := by decide +kernel
theorem dX12_clauses_116 : decode cX12_clauses 116 = .ok (.iconst 1, 1) := by decide +kernel
theorem dX12_clauses_117 : decode cX12_clauses 117 = .ok (.iadd, 1) := by decide +kernel
theorem dX12_clauses_118 : decode cX12_clauses 118 = .ok (.iaload, 1) := by decide +kernel
theorem dX12_clauses_119 : decode cX12_clauses 119 = .ok (.iastore, 1) := by decide +kernel
theorem dX12_clauses_120 : decode cX12_clauses 120 = .ok (.aload_n 0, 1) := by decide +kernel
theorem dX12_clauses_121 : decode cX12_clauses 121 = .ok (.getfield 17, 3) := by decide +kernel
theorem dX12_clauses_124 : decode cX12_clauses 124 = .ok (.bipush 6, 2) := by decide +kernel
theorem dX12_clauses_126 : decode cX12_clauses 126 = .ok (.iload_n 2, 1) := by decide +kernel
theorem dX12_clauses_127 : decode cX12_clauses 127 = .ok (.imul, 1) := by decide +kernel
theorem dX12_clauses_128 : decode cX12_clauses 128 = .ok (.iconst 2, 1) := by decide +kernel
theorem dX12_clauses_129 : decode cX12_clauses 129 = .ok (.iadd, 1) := by decide +kernel
theorem dX12_clauses_130 : decode cX12_clauses 130 = .ok (.aload_n 0, 1) := by decide +kernel
theorem dX12_clauses_131 : decode cX12_clauses 131 = .ok (.getfield 20, 3) := by decide +kernel
theorem dX12_clauses_134 : decode cX12_clauses 134 = .ok (.iconst 3, 1) := by decide +kernel
theorem dX12_clauses_135 : decode cX12_clauses 135 = .ok (.iload_n 2, 1) := by decide +kernel
theorem dX12_clauses_136 : decode cX12_clauses 136 = .ok (.imul, 1) := by decide +kernel
theorem dX12_clauses_137 : decode cX12_clauses 137 = .ok (.iconst 2, 1) := by decide +kernel
theorem dX12_clauses_138 : decode cX12_clauses 138 = .ok (.iadd, 1) := by decide +kernel
theorem dX12_clauses_139 : decode cX12_clauses 139 = .ok (.iaload, 1) := by decide +kernel
theorem dX12_clauses_140 : decode cX12_clauses 140 = .ok (.iastore, 1) := by decide +kernel
theorem dX12_clauses_141 : decode cX12_clauses 141 = .ok (.aload_n 0, 1) := by decide +kernel
theorem dX12_clauses_142 : decode cX12_clauses 142 = .ok (.getfield 17, 3) := by decide +kernel
theorem dX12_clauses_145 : decode cX12_clauses 145 = .ok (.bipush 6, 2) := by decide +kernel
theorem dX12_clauses_147 : decode cX12_clauses 147 = .ok (.iload_n 2, 1) := by decide +kernel
theorem dX12_clauses_148 : decode cX12_clauses 148 = .ok (.imul, 1) := by decide +kernel
theorem dX12_clauses_149 : decode cX12_clauses 149 = .ok (.iconst 3, 1) := by decide +kernel
theorem dX12_clauses_150 : decode cX12_clauses 150 = .ok (.iadd, 1) := by decide +kernel
theorem dX12_clauses_151 : decode cX12_clauses 151 = .ok (.bipush (-9), 2) := by decide +kernel
theorem dX12_clauses_153 : decode cX12_clauses 153 = .ok (.iastore, 1) := by decide +kernel
theorem dX12_clauses_154 : decode cX12_clauses 154 = .ok (.aload_n 0, 1) := by decide +kernel
theorem dX12_clauses_155 : decode cX12_clauses 155 = .ok (.getfield 17, 3) := by decide +kernel
theorem dX12_clauses_158 : decode cX12_clauses 158 = .ok (.bipush 6, 2) := by decide +kernel
theorem dX12_clauses_160 : decode cX12_clauses 160 = .ok (.iload_n 2, 1) := by decide +kernel
theorem dX12_clauses_161 : decode cX12_clauses 161 = .ok (.imul, 1) := by decide +kernel
theorem dX12_clauses_162 : decode cX12_clauses 162 = .ok (.iconst 4, 1) := by decide +kernel
theorem dX12_clauses_163 : decode cX12_clauses 163 = .ok (.iadd, 1) := by decide +kernel
theorem dX12_clauses_164 : decode cX12_clauses 164 = .ok (.bipush (-9), 2) := by decide +kernel
theorem dX12_clauses_166 : decode cX12_clauses 166 = .ok (.iastore, 1) := by decide +kernel
theorem dX12_clauses_167 : decode cX12_clauses 167 = .ok (.aload_n 0, 1) := by decide +kernel
theorem dX12_clauses_168 : decode cX12_clauses 168 = .ok (.getfield 17, 3) := by decide +kernel
theorem dX12_clauses_171 : decode cX12_clauses 171 = .ok (.bipush 6, 2) := by decide +kernel
theorem dX12_clauses_173 : decode cX12_clauses 173 = .ok (.iload_n 2, 1) := by decide +kernel
theorem dX12_clauses_174 : decode cX12_clauses 174 = .ok (.imul, 1) := by decide +kernel
theorem dX12_clauses_175 : decode cX12_clauses 175 = .ok (.iconst 5, 1) := by decide +kernel
theorem dX12_clauses_176 : decode cX12_clauses 176 = .ok (.iadd, 1) := by decide +kernel
theorem dX12_clauses_177 : decode cX12_clauses 177 = .ok (.bipush (-9), 2) := by decide +kernel
theorem dX12_clauses_179 : decode cX12_clauses 179 = .ok (.iastore, 1) := by decide +kernel
theorem dX12_clauses_180 : decode cX12_clauses 180 = .ok (.iinc 2 1, 3) := by decide +kernel
theorem dX12_clauses_183 : decode cX12_clauses 183 = .ok (.goto (-106), 3) := by decide +kernel
theorem dX12_clauses_186 : decode cX12_clauses 186 = .ok (.aload_n 0, 1) := by decide +kernel
theorem dX12_clauses_187 : decode cX12_clauses 187 = .ok (.iload_n 1, 1) := by decide +kernel
theorem dX12_clauses_188 : decode cX12_clauses 188 = .ok (.putfield 112, 3) := by decide +kernel
theorem dX12_clauses_191 : decode cX12_clauses 191 = .ok (.aload_n 0, 1) := by decide +kernel
theorem dX12_clauses_192 : decode cX12_clauses 192 = .ok (.iconst 0, 1) := by decide +kernel
theorem dX12_clauses_193 : decode cX12_clauses 193 = .ok (.putfield 115, 3) := by decide +kernel
theorem dX12_clauses_196 : decode cX12_clauses 196 = .ok (.aload_n 0, 1) := by decide +kernel
theorem dX12_clauses_197 : decode cX12_clauses 197 = .ok (.iconst 0, 1) := by decide +kernel
theorem dX12_clauses_198 : decode cX12_clauses 198 = .ok (.putfield 118, 3) := by decide +kernel
theorem dX12_clauses_201 : decode cX12_clauses 201 = .ok (.aload_n 0, 1) := by decide +kernel
theorem dX12_clauses_202 : decode cX12_clauses 202 = .ok (.bipush (-9), 2) := by decide +kernel
theorem dX12_clauses_204 : decode cX12_clauses 204 = .ok (.putfield 13, 3) := by decide +kernel
theorem dX12_clauses_207 : decode cX12_clauses 207 = .ok (.aload_n 0, 1) := by decide +kernel
theorem dX12_clauses_208 : decode cX12_clauses 208 = .ok (.iconst 0, 1) := by decide +kernel
theorem dX12_clauses_209 : decode cX12_clauses 209 = .ok (.putfield 64, 3) := by decide +kernel
theorem dX12_clauses_212 : decode cX12_clauses 212 = .ok (.iconst 0, 1) := by decide +kernel
theorem dX12_clauses_213 : decode cX12_clauses 213 = .ok (.istore_n 2, 1) := by decide +kernel
theorem dX12_clauses_214 : decode cX12_clauses 214 = .ok (.iload_n 2, 1) := by decide +kernel
theorem dX12_clauses_215 : decode cX12_clauses 215 = .ok (.iconst 4, 1) := by decide +kernel
theorem dX12_clauses_216 : decode cX12_clauses 216 = .ok (.if_icmp .ge 16, 3) := by decide +kernel
theorem dX12_clauses_219 : decode cX12_clauses 219 = .ok (.aload_n 0, 1) := by decide +kernel
theorem dX12_clauses_220 : decode cX12_clauses 220 = .ok (.getfield 45, 3) := by decide +kernel
theorem dX12_clauses_223 : decode cX12_clauses 223 = .ok (.iload_n 2, 1) := by decide +kernel
theorem dX12_clauses_224 : decode cX12_clauses 224 = .ok (.lconst 0, 1) := by decide +kernel
theorem dX12_clauses_225 : decode cX12_clauses 225 = .ok (.lastore, 1) := by decide +kernel
theorem dX12_clauses_226 : decode cX12_clauses 226 = .ok (.iinc 2 1, 3) := by decide +kernel
theorem dX12_clauses_229 : decode cX12_clauses 229 = .ok (.goto (-15), 3) := by decide +kernel
theorem dX12_clauses_232 : decode cX12_clauses 232 = .ok (.iconst 0, 1) := by decide +kernel
theorem dX12_clauses_233 : decode cX12_clauses 233 = .ok (.istore_n 2, 1) := by decide +kernel
theorem dX12_clauses_234 : decode cX12_clauses 234 = .ok (.iload_n 2, 1) := by decide +kernel
theorem dX12_clauses_235 : decode cX12_clauses 235 = .ok (.aload_n 0, 1) := by decide +kernel
theorem dX12_clauses_236 : decode cX12_clauses 236 = .ok (.getfield 112, 3) := by decide +kernel
theorem dX12_clauses_239 : decode cX12_clauses 239 = .ok (.if_icmp .ge 19, 3) := by decide +kernel
theorem dX12_clauses_242 : decode cX12_clauses 242 = .ok (.aload_n 0, 1) := by decide +kernel
theorem dX12_clauses_243 : decode cX12_clauses 243 = .ok (.iload_n 2, 1) := by decide +kernel
theorem dX12_clauses_244 : decode cX12_clauses 244 = .ok (.invokevirtual 121, 3) := by decide +kernel
theorem dX12_clauses_247 : decode cX12_clauses 247 = .ok (.aload_n 0, 1) := by decide +kernel
theorem dX12_clauses_248 : decode cX12_clauses 248 = .ok (.iload_n 2, 1) := by decide +kernel
theorem dX12_clauses_249 : decode cX12_clauses 249 = .ok (.invokevirtual 124, 3) := by decide +kernel
theorem dX12_clauses_252 : decode cX12_clauses 252 = .ok (.iinc 2 1, 3) := by decide +kernel
theorem dX12_clauses_255 : decode cX12_clauses 255 = .ok (.goto (-21), 3) := by decide +kernel
theorem dX12_clauses_258 : decode cX12_clauses 258 = .ok (.aload_n 0, 1) := by decide +kernel
theorem dX12_clauses_259 : decode cX12_clauses 259 = .ok (.invokevirtual 54, 3) := by decide +kernel
theorem dX12_clauses_262 : decode cX12_clauses 262 = .ok (.aload_n 0, 1) := by decide +kernel
theorem dX12_clauses_263 : decode cX12_clauses 263 = .ok (.getfield 112, 3) := by decide +kernel
theorem dX12_clauses_266 : decode cX12_clauses 266 = .ok (.ireturn, 1) := by decide +kernel
set_option maxRecDepth 20000 in
set_option maxHeartbeats 1000000 in
theorem s_X12_readsClause {xs : Nat → Int32} {L d : Nat} {h : ev_H} {f g : Nat → Int32} {n p a : Nat} {th : Int32} {tr : Int64} {w cl md ss wg : Int32} {D : Nat → Int32} (hS : SH h) (hX : TXR f g n) (hp : p ≤ n) (h5 : h 420 = c420 th tr (nI n) (nI (rdP f n p)) (kmap (tK f n p)) (nI (rdS f n p)) w (-1) cl md ss wg) (hw : tK f n p = 1 ∨ tK f n p = 3 ∨ tK f n p = 4 → w = tV f n p) (h6 : h 421 = c421 g) (h7 : h 423 = cI 48 D) (ha : a + 2 < 48) : EV xs L (d + 4) 0 0 M_X12_readsClause 434 h 0 [some (.ref 420), some (.int (nI a)), none] [] (fun sz' h' r => sz' = 434 ∧ SH h' ∧ KM [420, 423] h h' ∧ (r = [] ∧ ∃ D', h' 423 = cI 48 D' ∧ (∀ j, j < a → D' j = D j) ∧ ((tK f n p = 1 ∧ (clL f n 8 (rdP f n p) 0 0).1 = true ∧ D' a = (clL f n 8 (rdP f n p) 0 0).2.2.1 ∧ D' (a + 1) = (clL f n 8 (rdP f n p) 0 0).2.2.2 ∧ D' (a + 2) = tV f n p ∧ mTk f n (rdP f n (clL f n 8 (rdP f n p) 0 0).2.1) th tr cl md ss wg (h' 420)) ∨ (tK f n p = 1 ∧ (clL f n 8 (rdP f n p) 0 0).1 = false ∧ mFt n (rdS f n (clL f n 8 (rdP f n p) 0 0).2.1) th tr cl md ss wg (h' 420)) ∨ (¬ tK f n p = 1 ∧ mFt n (rdS f n p) th tr cl md ss wg (h' 420))))) := by
  have hl0 := (rdS_le f hp).2
  have hn := hX.1
  refine r_aload_n rfl dX12_readsClause_0 rfl ?_
  refine r_aload_n rfl dX12_readsClause_1 rfl ?_
  refine r_getv 5 rfl dX12_readsClause_2 (show 2 ≤ 420 ∧ 420 < 434 by decide) h5 fl_X12_76 rfl ?_
  refine r_iconst (v := 2) rfl dX12_readsClause_5 (by decide) ?_
  refine r_icmp_ne (tgt := 13) rfl rfl dX12_readsClause_6 (fun c51 => ?_) (fun c51 => ?_)
  · have k52 : ¬ tK f n p = 1 := fun z => c51 ((km2 _).mpr z)
    refine r_iconst (v := 0) rfl dX12_readsClause_13 (by decide) ?_
    refine cl_X12_99 rfl rfl dX12_readsClause_14 (show 2 ≤ 420 ∧ 420 < 434 by decide).1 (show 2 ≤ 420 ∧ 420 < 434 by decide).2 h5 (Nat.le_of_ble_eq_true rfl) (s_X12_wants0 hS h5) ?_
    rintro _ h53 _ ⟨rfl, hS54, hK55, f56, rfl⟩
    have hF57 := KM_tr (KM_rf (Mod := [420, 423]) h) (KM_sb (by decide) hK55)
    have f58 : h53 421 = .inl (0, 300, .inl g) := (hK55 421 (by decide)).trans h6
    have f59 : h53 423 = .inl (0, 48, .inl D) := (hK55 423 (by decide)).trans h7
    refine r_aload_n rfl dX12_readsClause_17 rfl ?_
    refine r_getv 14 rfl dX12_readsClause_18 (show 2 ≤ 420 ∧ 420 < 434 by decide) f56 fl_X12_20 rfl ?_
    refine r_iload_n rfl dX12_readsClause_21 rfl ?_
    refine r_iconst (v := 0) rfl dX12_readsClause_22 (by decide) ?_
    refine e_iast (jn := a) rfl dX12_readsClause_23 (show 2 ≤ 423 ∧ 423 < 434 by decide) hS54 hF57 (by decide) f59 (vp_in_nI (n := a) (by omega) (by decide)) (nI_clamp (n := a) (by omega)) (fun h60 hS61 hF62 hN63 f64 => ?_)
    have f65 : h60 421 = .inl (0, 300, .inl g) := (hN63 421 (by decide)).trans f58
    have f66 : h60 420 = .inr (12, [.int th, .long tr, .ref 421, .int (nI n), .int (nI (rdP f n p)), .int (kmap (tK f n p)), .int (nI (rdS f n p)), .int w, .int (nI (rdS f n p)), .int cl, .int md, .int ss, .int wg, .ref 422, .ref 423, .ref 424, .ref 425, .ref 426, .ref 427, .ref 428, .ref 429, .ref 430, .ref 431, .ref 432, .ref 433]) := (hN63 420 (by decide)).trans f56
    refine r_aload_n rfl dX12_readsClause_24 rfl ?_
    refine r_getv 14 rfl dX12_readsClause_25 (show 2 ≤ 420 ∧ 420 < 434 by decide) f66 fl_X12_20 rfl ?_
    refine r_iload_n rfl dX12_readsClause_28 rfl ?_
    refine r_iconst (v := 1) rfl dX12_readsClause_29 (by decide) ?_
    refine r_iadd rfl dX12_readsClause_30 ?_
    refine r_eqi (y := nI (a + 1)) (show (nI a) + 1 = nI (a + 1) from nI_add a 1) ?_
    refine r_iconst (v := 0) rfl dX12_readsClause_31 (by decide) ?_
    refine e_iast (jn := a + 1) rfl dX12_readsClause_32 (show 2 ≤ 423 ∧ 423 < 434 by decide) hS61 hF62 (by decide) f64 (vp_in_nI (n := a + 1) (by omega) (by decide)) (nI_clamp (n := a + 1) (by omega)) (fun h67 hS68 hF69 hN70 f71 => ?_)
    have f72 : h67 421 = .inl (0, 300, .inl g) := (hN70 421 (by decide)).trans f65
    have f73 : h67 420 = .inr (12, [.int th, .long tr, .ref 421, .int (nI n), .int (nI (rdP f n p)), .int (kmap (tK f n p)), .int (nI (rdS f n p)), .int w, .int (nI (rdS f n p)), .int cl, .int md, .int ss, .int wg, .ref 422, .ref 423, .ref 424, .ref 425, .ref 426, .ref 427, .ref 428, .ref 429, .ref 430, .ref 431, .ref 432, .ref 433]) := (hN70 420 (by decide)).trans f66
    refine r_aload_n rfl dX12_readsClause_33 rfl ?_
    refine r_getv 14 rfl dX12_readsClause_34 (show 2 ≤ 420 ∧ 420 < 434 by decide) f73 fl_X12_20 rfl ?_
    refine r_iload_n rfl dX12_readsClause_37 rfl ?_
    refine r_iconst (v := 2) rfl dX12_readsClause_38 (by decide) ?_
    refine r_iadd rfl dX12_readsClause_39 ?_
    refine r_eqi (y := nI (a + 2)) (show (nI a) + 2 = nI (a + 2) from nI_add a 2) ?_
    refine r_aload_n rfl dX12_readsClause_40 rfl ?_
    refine r_getv 7 rfl dX12_readsClause_41 (show 2 ≤ 420 ∧ 420 < 434 by decide) f73 fl_X12_79 rfl ?_
    refine e_iast (jn := a + 2) rfl dX12_readsClause_44 (show 2 ≤ 423 ∧ 423 < 434 by decide) hS68 hF69 (by decide) f71 (vp_in_nI (n := a + 2) (by omega) (by decide)) (nI_clamp (n := a + 2) (by omega)) (fun h74 hS75 hF76 hN77 f78 => ?_)
    have f79 : h74 421 = .inl (0, 300, .inl g) := (hN77 421 (by decide)).trans f72
    have f80 : h74 420 = .inr (12, [.int th, .long tr, .ref 421, .int (nI n), .int (nI (rdP f n p)), .int (kmap (tK f n p)), .int (nI (rdS f n p)), .int w, .int (nI (rdS f n p)), .int cl, .int md, .int ss, .int wg, .ref 422, .ref 423, .ref 424, .ref 425, .ref 426, .ref 427, .ref 428, .ref 429, .ref 430, .ref 431, .ref 432, .ref 433]) := (hN77 420 (by decide)).trans f73
    refine r_aload_n rfl dX12_readsClause_45 rfl ?_
    refine cl_X12_103 rfl rfl dX12_readsClause_46 (show 2 ≤ 420 ∧ 420 < 434 by decide).1 (show 2 ≤ 420 ∧ 420 < 434 by decide).2 f80 (Nat.le_of_ble_eq_true rfl) (s_X12_goesOnF hS75 f80 (by omega)) ?_
    rintro _ h81 _ ⟨rfl, -, -, e82, rfl⟩
    replace e82 := e82.symm
    subst e82
    refine r_aload_n rfl dX12_readsClause_49 rfl ?_
    refine cl_X12_92 rfl rfl dX12_readsClause_50 (show 2 ≤ 420 ∧ 420 < 434 by decide).1 (show 2 ≤ 420 ∧ 420 < 434 by decide).2 f80 (Nat.le_of_ble_eq_true rfl) (s_X12_isWell0 hS75 f80 (by omega)) ?_
    rintro _ h83 _ ⟨rfl, e84, rfl⟩
    replace e84 := e84.symm
    subst e84
    refine r_if_eq (tgt := 168) rfl rfl dX12_readsClause_53 (fun _ => ?_) (fun zc => absurd zc (by decide))
    refine r_aload_n rfl dX12_readsClause_168 rfl ?_
    refine cl_X12_103 rfl rfl dX12_readsClause_169 (show 2 ≤ 420 ∧ 420 < 434 by decide).1 (show 2 ≤ 420 ∧ 420 < 434 by decide).2 f80 (Nat.le_of_ble_eq_true rfl) (s_X12_goesOnF hS75 f80 (by omega)) ?_
    rintro _ h85 _ ⟨rfl, -, -, e86, rfl⟩
    replace e86 := e86.symm
    subst e86
    exact r_ret dX12_readsClause_172 (rt_v rfl) ⟨rfl, hS75, hF76, rfl, _, f78, fun j z => (by rw [pk_un (by omega), pk_un (by omega), pk_un (by omega)]), Or.inr (Or.inr ⟨k52, _, _, _, _, f80⟩)⟩
  · have k87 : tK f n p = 1 := (km2 _).mp c51
    refine r_iconst (v := 1) rfl dX12_readsClause_9 (by decide) ?_
    refine r_goto (pc' := 14) rfl dX12_readsClause_10 ?_
    refine cl_X12_99 rfl rfl dX12_readsClause_14 (show 2 ≤ 420 ∧ 420 < 434 by decide).1 (show 2 ≤ 420 ∧ 420 < 434 by decide).2 h5 (Nat.le_of_ble_eq_true rfl) (s_X12_wants1 hS h5) ?_
    rintro _ h88 _ ⟨rfl, hS89, hK90, f91, rfl⟩
    have hF92 := KM_tr (KM_rf (Mod := [420, 423]) h) (KM_sb (by decide) hK90)
    have f93 : h88 421 = .inl (0, 300, .inl g) := (hK90 421 (by decide)).trans h6
    have f94 : h88 423 = .inl (0, 48, .inl D) := (hK90 423 (by decide)).trans h7
    refine r_aload_n rfl dX12_readsClause_17 rfl ?_
    refine r_getv 14 rfl dX12_readsClause_18 (show 2 ≤ 420 ∧ 420 < 434 by decide) f91 fl_X12_20 rfl ?_
    refine r_iload_n rfl dX12_readsClause_21 rfl ?_
    refine r_iconst (v := 0) rfl dX12_readsClause_22 (by decide) ?_
    refine e_iast (jn := a) rfl dX12_readsClause_23 (show 2 ≤ 423 ∧ 423 < 434 by decide) hS89 hF92 (by decide) f94 (vp_in_nI (n := a) (by omega) (by decide)) (nI_clamp (n := a) (by omega)) (fun h95 hS96 hF97 hN98 f99 => ?_)
    have f100 : h95 421 = .inl (0, 300, .inl g) := (hN98 421 (by decide)).trans f93
    have f101 : h95 420 = .inr (12, [.int th, .long tr, .ref 421, .int (nI n), .int (nI (rdP f n p)), .int (kmap (tK f n p)), .int (nI (rdS f n p)), .int w, .int (-1), .int cl, .int md, .int ss, .int wg, .ref 422, .ref 423, .ref 424, .ref 425, .ref 426, .ref 427, .ref 428, .ref 429, .ref 430, .ref 431, .ref 432, .ref 433]) := (hN98 420 (by decide)).trans f91
    refine r_aload_n rfl dX12_readsClause_24 rfl ?_
    refine r_getv 14 rfl dX12_readsClause_25 (show 2 ≤ 420 ∧ 420 < 434 by decide) f101 fl_X12_20 rfl ?_
    refine r_iload_n rfl dX12_readsClause_28 rfl ?_
    refine r_iconst (v := 1) rfl dX12_readsClause_29 (by decide) ?_
    refine r_iadd rfl dX12_readsClause_30 ?_
    refine r_eqi (y := nI (a + 1)) (show (nI a) + 1 = nI (a + 1) from nI_add a 1) ?_
    refine r_iconst (v := 0) rfl dX12_readsClause_31 (by decide) ?_
    refine e_iast (jn := a + 1) rfl dX12_readsClause_32 (show 2 ≤ 423 ∧ 423 < 434 by decide) hS96 hF97 (by decide) f99 (vp_in_nI (n := a + 1) (by omega) (by decide)) (nI_clamp (n := a + 1) (by omega)) (fun h102 hS103 hF104 hN105 f106 => ?_)
    have f107 : h102 421 = .inl (0, 300, .inl g) := (hN105 421 (by decide)).trans f100
    have f108 : h102 420 = .inr (12, [.int th, .long tr, .ref 421, .int (nI n), .int (nI (rdP f n p)), .int (kmap (tK f n p)), .int (nI (rdS f n p)), .int w, .int (-1), .int cl, .int md, .int ss, .int wg, .ref 422, .ref 423, .ref 424, .ref 425, .ref 426, .ref 427, .ref 428, .ref 429, .ref 430, .ref 431, .ref 432, .ref 433]) := (hN105 420 (by decide)).trans f101
    refine r_aload_n rfl dX12_readsClause_33 rfl ?_
    refine r_getv 14 rfl dX12_readsClause_34 (show 2 ≤ 420 ∧ 420 < 434 by decide) f108 fl_X12_20 rfl ?_
    refine r_iload_n rfl dX12_readsClause_37 rfl ?_
    refine r_iconst (v := 2) rfl dX12_readsClause_38 (by decide) ?_
    refine r_iadd rfl dX12_readsClause_39 ?_
    refine r_eqi (y := nI (a + 2)) (show (nI a) + 2 = nI (a + 2) from nI_add a 2) ?_
    refine r_aload_n rfl dX12_readsClause_40 rfl ?_
    refine r_getv 7 rfl dX12_readsClause_41 (show 2 ≤ 420 ∧ 420 < 434 by decide) f108 fl_X12_79 rfl ?_
    refine e_iast (jn := a + 2) rfl dX12_readsClause_44 (show 2 ≤ 423 ∧ 423 < 434 by decide) hS103 hF104 (by decide) f106 (vp_in_nI (n := a + 2) (by omega) (by decide)) (nI_clamp (n := a + 2) (by omega)) (fun h109 hS110 hF111 hN112 f113 => ?_)
    have f114 : h109 421 = .inl (0, 300, .inl g) := (hN112 421 (by decide)).trans f107
    have f115 : h109 420 = .inr (12, [.int th, .long tr, .ref 421, .int (nI n), .int (nI (rdP f n p)), .int (kmap (tK f n p)), .int (nI (rdS f n p)), .int w, .int (-1), .int cl, .int md, .int ss, .int wg, .ref 422, .ref 423, .ref 424, .ref 425, .ref 426, .ref 427, .ref 428, .ref 429, .ref 430, .ref 431, .ref 432, .ref 433]) := (hN112 420 (by decide)).trans f108
    refine r_aload_n rfl dX12_readsClause_45 rfl ?_
    refine cl_X12_103 rfl rfl dX12_readsClause_46 (show 2 ≤ 420 ∧ 420 < 434 by decide).1 (show 2 ≤ 420 ∧ 420 < 434 by decide).2 f115 (Nat.le_of_ble_eq_true rfl) (s_X12_goesOn1 hS110 hX (rdP_le f hp) f115 f114) ?_
    rintro _ h116 _ ⟨rfl, hS117, hK118, ⟨w121, f119, hw122⟩, rfl⟩
    have hF120 := KM_tr hF111 (KM_sb (by decide) hK118)
    have hl123 := (rdS_le f (rdP_le f hp)).2
    have f124 : h116 421 = .inl (0, 300, .inl g) := (hK118 421 (by decide)).trans f114
    have f125 : h116 423 = .inl (0, 48, .inl (upd (upd (upd D a 0) (a + 1) 0) (a + 2) w)) := (hK118 423 (by decide)).trans f113
    refine EV.post ?_ (s_X12_readsClause_loop hX ha 8 _ 0 0 _ _ _ h116 (rdP_le f hp) f119 hw122 f124 f125 (by rw [pk_un (by omega), pk_un (by omega), pk_us]) (by rw [pk_un (by omega), pk_us]) UI_8 hS117)
    rintro a1 a2 a3 ⟨b1, b2, b3, b4, D1, b5, b6, b7⟩
    refine ⟨b1, b2, KM_tr hF120 b3, b4, D1, b5, fun j z => (b6 j (by omega) (by omega)).trans (by rw [pk_un (by omega), pk_un (by omega), pk_un (by omega)]), ?_⟩
    rcases b7 with ⟨g1, g2, g3, g4⟩ | ⟨g1, g2⟩
    · exact Or.inl ⟨k87, g1, g2, g3, by rw [b6 (a + 2) (by omega) (by omega), pk_us]; exact hw (Or.inl k87), g4⟩
    · exact Or.inr (Or.inl ⟨k87, g1, g2⟩)
/-- the reference's draft and the class's rows, i CLAUSES of them, are the same -/
def DR (i : Nat) (D A B C : Nat → Int32) : Prop := ∀ j, j < i → D (3 * j) = B j ∧ D (3 * j + 1) = C j ∧ D (3 * j + 2) = A j
theorem DR_s {i : Nat} {D D' A B C : Nat → Int32} {a b c : Int32} (h : DR i D A B C) (hj : ∀ j, j < 3 * i → D' j = D j) (h1 : D' (3 * i) = b) (h2 : D' (3 * i + 1) = c) (h3 : D' (3 * i + 2) = a) : DR (i + 1) D' (upd A i a) (upd B i b) (upd C i c) := by
  intro j hji
  by_cases e : j = i
  · subst e
    exact ⟨h1.trans pk_us.symm, h2.trans pk_us.symm, h3.trans pk_us.symm⟩
  · obtain ⟨e1, e2, e3⟩ := h j (by omega)
    exact ⟨(hj _ (by omega)).trans (e1.trans (pk_un e).symm), (hj _ (by omega)).trans (e2.trans (pk_un e).symm), (hj _ (by omega)).trans (e3.trans (pk_un e).symm)⟩
abbrev RS5 : Type := Int32 × Nat × (Nat → Int32) × (Nat → Int32) × (Nat → Int32)
set_option maxRecDepth 20000 in
set_option maxHeartbeats 1000000 in
theorem s_X12_clauses_z {xs : Nat → Int32} {L d : Nat} {h : ev_H} {h0 : ev_H} {Q : ev_Q} {f g : Nat → Int32} {n p i : Nat} {th : Int32} {tr : Int64} {w cl md ss wg : Int32} {D A B C : Nat → Int32} {RES : RS5} (hS : SH h) (hX : TXR f g n) (hp : p ≤ n) (hF : KM [420, 423] h0 h) (h5 : h 420 = c420 th tr (nI n) (nI (rdP f n p)) (kmap (tK f n p)) (nI (rdS f n p)) w (-1) cl md ss wg) (hw : tK f n p = 1 ∨ tK f n p = 3 ∨ tK f n p = 4 → w = tV f n p) (h6 : h 421 = c421 g) (h7 : h 423 = cI 48 D) (hD : DR i D A B C) (hi : i = 16) (hres : csL f n 0 p i A B C = RES) (hK1 : ∀ (h' : ev_H) (D' : Nat → Int32) (nx tk pl va : Int32), SH h' → KM [420, 423] h0 h' → h' 420 = c420 th tr (nI n) nx tk pl va (-1) cl md ss wg → h' 423 = cI 48 D' → RES.1 = -1 → DR RES.2.1 D' RES.2.2.1 RES.2.2.2.1 RES.2.2.2.2 → RES.2.1 ≤ 16 → EV xs L (d + 5) 0 0 M_X12_clauses 434 h' 60 [some (.ref 420), some (.int (nI RES.2.1)), none] [] Q) (hK0 : ∀ (h' : ev_H) (x nx tk pl va : Int32) (q : Nat), SH h' → KM [420, 423] h0 h' → h' 420 = c420 th tr (nI n) nx tk pl va (nI q) cl md ss wg → q ≤ 300 → RES.1 = nI q → EV xs L (d + 5) 0 0 M_X12_clauses 434 h' 60 [some (.ref 420), some (.int x), none] [] Q) : EV xs L (d + 5) 0 0 M_X12_clauses 434 h 11 [some (.ref 420), some (.int (nI i)), none] [] Q := by
  have hl0 := (rdS_le f hp).2
  have hn := hX.1
  refine r_aload_n rfl dX12_clauses_11 rfl ?_
  refine cl_X12_92 rfl rfl dX12_clauses_12 (show 2 ≤ 420 ∧ 420 < 434 by decide).1 (show 2 ≤ 420 ∧ 420 < 434 by decide).2 h5 (Nat.le_of_ble_eq_true rfl) (s_X12_isWell1 hS h5) ?_
  rintro _ h51 _ ⟨rfl, e52, rfl⟩
  replace e52 := e52.symm
  subst e52
  refine r_if_eq (tgt := 60) rfl rfl dX12_clauses_15 (fun zc => absurd zc (by decide)) (fun _ => ?_)
  refine r_aload_n rfl dX12_clauses_18 rfl ?_
  refine r_getv 5 rfl dX12_clauses_19 (show 2 ≤ 420 ∧ 420 < 434 by decide) h5 fl_X12_76 rfl ?_
  refine r_if_eq (tgt := 60) rfl rfl dX12_clauses_22 (fun c53 => ?_) (fun c53 => ?_)
  · have k54 : tK f n p = 0 := (km0 _).mp c53
    have e55 : RES = (-1, i, A, B, C) := by rw [← hres, csL, if_pos k54]
    subst e55
    exact hK1 h _ _ _ _ _ hS hF h5 h7 rfl hD (by show i ≤ 16; omega)
  · have k56 : ¬ tK f n p = 0 := fun z => c53 ((km0 _).mpr z)
    refine r_aload_n rfl dX12_clauses_25 rfl ?_
    refine r_iload_n rfl dX12_clauses_26 rfl ?_
    refine r_bipush (v := 16) rfl dX12_clauses_27 (by decide) ?_
    refine r_icmp_ge (tgt := 36) rfl rfl dX12_clauses_29 (fun _ => ?_) (fun zc => absurd (show (16 : Int32) ≤ nI i from nI_le (a := 16) (b := i) (by omega) (by omega)) zc)
    refine r_iconst (v := 0) rfl dX12_clauses_36 (by decide) ?_
    refine cl_X12_99 rfl rfl dX12_clauses_37 (show 2 ≤ 420 ∧ 420 < 434 by decide).1 (show 2 ≤ 420 ∧ 420 < 434 by decide).2 h5 (Nat.le_of_ble_eq_true rfl) (s_X12_wants0 hS h5) ?_
    rintro _ h57 _ ⟨rfl, hS58, hK59, f60, rfl⟩
    have hF61 := KM_tr hF (KM_sb (by decide) hK59)
    have f62 : h57 421 = .inl (0, 300, .inl g) := (hK59 421 (by decide)).trans h6
    have f63 : h57 423 = .inl (0, 48, .inl D) := (hK59 423 (by decide)).trans h7
    refine r_aload_n rfl dX12_clauses_40 rfl ?_
    refine cl_X12_92 rfl rfl dX12_clauses_41 (show 2 ≤ 420 ∧ 420 < 434 by decide).1 (show 2 ≤ 420 ∧ 420 < 434 by decide).2 f60 (Nat.le_of_ble_eq_true rfl) (s_X12_isWell0 hS58 f60 (by omega)) ?_
    rintro _ h64 _ ⟨rfl, e65, rfl⟩
    replace e65 := e65.symm
    subst e65
    refine r_if_eq (tgt := 11) rfl rfl dX12_clauses_44 (fun _ => ?_) (fun zc => absurd zc (by decide))
    refine r_aload_n rfl dX12_clauses_11 rfl ?_
    refine cl_X12_92 rfl rfl dX12_clauses_12 (show 2 ≤ 420 ∧ 420 < 434 by decide).1 (show 2 ≤ 420 ∧ 420 < 434 by decide).2 f60 (Nat.le_of_ble_eq_true rfl) (s_X12_isWell0 hS58 f60 (by omega)) ?_
    rintro _ h66 _ ⟨rfl, e67, rfl⟩
    replace e67 := e67.symm
    subst e67
    refine r_if_eq (tgt := 60) rfl rfl dX12_clauses_15 (fun _ => ?_) (fun zc => absurd zc (by decide))
    have e68 : RES.1 = nI (rdS f n p) := by rw [← hres, csL, if_neg k56]
    exact hK0 h57 _ _ _ _ _ _ hS58 hF61 f60 (by omega) e68
set_option maxRecDepth 20000 in
set_option maxHeartbeats 1000000 in
theorem s_X12_clauses_s {xs : Nat → Int32} {L d : Nat} {h : ev_H} {h0 : ev_H} {Q : ev_Q} {f g : Nat → Int32} {n p i : Nat} {th : Int32} {tr : Int64} {w cl md ss wg : Int32} {D A B C : Nat → Int32} {RES : RS5} {r : Nat} (hS : SH h) (hX : TXR f g n) (hp : p ≤ n) (hF : KM [420, 423] h0 h) (h5 : h 420 = c420 th tr (nI n) (nI (rdP f n p)) (kmap (tK f n p)) (nI (rdS f n p)) w (-1) cl md ss wg) (hw : tK f n p = 1 ∨ tK f n p = 3 ∨ tK f n p = 4 → w = tV f n p) (h6 : h 421 = c421 g) (h7 : h 423 = cI 48 D) (hD : DR i D A B C) (hi : i + (r + 1) = 16) (hres : csL f n (r + 1) p i A B C = RES) (hK1 : ∀ (h' : ev_H) (D' : Nat → Int32) (nx tk pl va : Int32), SH h' → KM [420, 423] h0 h' → h' 420 = c420 th tr (nI n) nx tk pl va (-1) cl md ss wg → h' 423 = cI 48 D' → RES.1 = -1 → DR RES.2.1 D' RES.2.2.1 RES.2.2.2.1 RES.2.2.2.2 → RES.2.1 ≤ 16 → EV xs L (d + 5) 0 0 M_X12_clauses 434 h' 60 [some (.ref 420), some (.int (nI RES.2.1)), none] [] Q) (hK0 : ∀ (h' : ev_H) (x nx tk pl va : Int32) (q : Nat), SH h' → KM [420, 423] h0 h' → h' 420 = c420 th tr (nI n) nx tk pl va (nI q) cl md ss wg → q ≤ 300 → RES.1 = nI q → EV xs L (d + 5) 0 0 M_X12_clauses 434 h' 60 [some (.ref 420), some (.int x), none] [] Q) (ih : ∀ (p' : Nat) (A' B' C' : Nat → Int32) (w' : Int32) (D' : Nat → Int32) (h' : ev_H), p' ≤ n → SH h' → KM [420, 423] h0 h' → h' 420 = c420 th tr (nI n) (nI (rdP f n p')) (kmap (tK f n p')) (nI (rdS f n p')) w' (-1) cl md ss wg → (tK f n p' = 1 ∨ tK f n p' = 3 ∨ tK f n p' = 4 → w' = tV f n p') → h' 421 = c421 g → h' 423 = cI 48 D' → DR (i + 1) D' A' B' C' → csL f n r p' (i + 1) A' B' C' = RES → EV xs L (d + 5) 0 0 M_X12_clauses 434 h' 11 [some (.ref 420), some (.int (nI (i + 1))), none] [] Q) : EV xs L (d + 5) 0 0 M_X12_clauses 434 h 11 [some (.ref 420), some (.int (nI i)), none] [] Q := by
  have hl0 := (rdS_le f hp).2
  have hn := hX.1
  refine r_aload_n rfl dX12_clauses_11 rfl ?_
  refine cl_X12_92 rfl rfl dX12_clauses_12 (show 2 ≤ 420 ∧ 420 < 434 by decide).1 (show 2 ≤ 420 ∧ 420 < 434 by decide).2 h5 (Nat.le_of_ble_eq_true rfl) (s_X12_isWell1 hS h5) ?_
  rintro _ h51 _ ⟨rfl, e52, rfl⟩
  replace e52 := e52.symm
  subst e52
  refine r_if_eq (tgt := 60) rfl rfl dX12_clauses_15 (fun zc => absurd zc (by decide)) (fun _ => ?_)
  refine r_aload_n rfl dX12_clauses_18 rfl ?_
  refine r_getv 5 rfl dX12_clauses_19 (show 2 ≤ 420 ∧ 420 < 434 by decide) h5 fl_X12_76 rfl ?_
  refine r_if_eq (tgt := 60) rfl rfl dX12_clauses_22 (fun c53 => ?_) (fun c53 => ?_)
  · have k54 : tK f n p = 0 := (km0 _).mp c53
    have e55 : RES = (-1, i, A, B, C) := by rw [← hres, csL, if_pos k54]
    subst e55
    exact hK1 h _ _ _ _ _ hS hF h5 h7 rfl hD (by show i ≤ 16; omega)
  · have k56 : ¬ tK f n p = 0 := fun z => c53 ((km0 _).mpr z)
    refine r_aload_n rfl dX12_clauses_25 rfl ?_
    refine r_iload_n rfl dX12_clauses_26 rfl ?_
    refine r_bipush (v := 16) rfl dX12_clauses_27 (by decide) ?_
    refine r_icmp_ge (tgt := 36) rfl rfl dX12_clauses_29 (fun zc => absurd zc (show ¬ (16 : Int32) ≤ nI i from nI_ge (a := i) (b := 16) (by omega) (by decide))) (fun _ => ?_)
    refine r_iconst (v := 1) rfl dX12_clauses_32 (by decide) ?_
    refine r_goto (pc' := 37) rfl dX12_clauses_33 ?_
    refine cl_X12_99 rfl rfl dX12_clauses_37 (show 2 ≤ 420 ∧ 420 < 434 by decide).1 (show 2 ≤ 420 ∧ 420 < 434 by decide).2 h5 (Nat.le_of_ble_eq_true rfl) (s_X12_wants1 hS h5) ?_
    rintro _ h57 _ ⟨rfl, hS58, hK59, f60, rfl⟩
    have hF61 := KM_tr hF (KM_sb (by decide) hK59)
    have f62 : h57 421 = .inl (0, 300, .inl g) := (hK59 421 (by decide)).trans h6
    have f63 : h57 423 = .inl (0, 48, .inl D) := (hK59 423 (by decide)).trans h7
    refine r_aload_n rfl dX12_clauses_40 rfl ?_
    refine cl_X12_92 rfl rfl dX12_clauses_41 (show 2 ≤ 420 ∧ 420 < 434 by decide).1 (show 2 ≤ 420 ∧ 420 < 434 by decide).2 f60 (Nat.le_of_ble_eq_true rfl) (s_X12_isWell1 hS58 f60) ?_
    rintro _ h64 _ ⟨rfl, e65, rfl⟩
    replace e65 := e65.symm
    subst e65
    refine r_if_eq (tgt := 11) rfl rfl dX12_clauses_44 (fun zc => absurd zc (by decide)) (fun _ => ?_)
    refine r_aload_n rfl dX12_clauses_47 rfl ?_
    refine r_iconst (v := 3) rfl dX12_clauses_48 (by decide) ?_
    refine r_iload_n rfl dX12_clauses_49 rfl ?_
    refine r_imul rfl dX12_clauses_50 ?_
    refine r_eqi (y := nI (3 * i)) (show 3 * (nI i) = nI (3 * i) from pk_mul 3 i) ?_
    refine cl_X12_109 rfl rfl dX12_clauses_51 (show 2 ≤ 420 ∧ 420 < 434 by decide).1 (show 2 ≤ 420 ∧ 420 < 434 by decide).2 f60 (Nat.le_of_ble_eq_true rfl) (s_X12_readsClause hS58 hX hp f60 hw f62 f63 (a := 3 * i) (by omega)) ?_
    rintro _ h66 _ ⟨rfl, hS67, hK68, rfl, D70, f71, hj72, ⟨c73, c74, g75, g76, g77, w78, f80, hw79⟩ | ⟨c73, c74, n81, n82, n83, n84, f80⟩ | ⟨c73, n81, n82, n83, n84, f80⟩⟩
    · have hF69 := KM_tr hF61 (KM_sb (by decide) hK68)
      have f85 : h66 421 = .inl (0, 300, .inl g) := (hK68 421 (by decide)).trans f62
      refine r_iinc (y := nI (i + 1)) (ls' := [some (.ref 420), some (.int (nI (i + 1))), none]) rfl dX12_clauses_54 rfl (nI_1 i) (Nat.le_of_ble_eq_true rfl) rfl ?_
      refine r_goto (pc' := 11) rfl dX12_clauses_57 ?_
      exact ih _ _ _ _ _ _ h66 (rdP_le f (clL_le f n 8 _ 0 0 (rdP_le f hp)).1) hS67 hF69 f80 hw79 f85 f71 (DR_s hD hj72 g75 g76 g77) (by rw [← hres, csL, if_neg k56, if_pos c73, if_pos c74])
    · have hF69 := KM_tr hF61 (KM_sb (by decide) hK68)
      have hl86 := (rdS_le f (clL_le f n 8 _ 0 0 (rdP_le f hp)).1).2
      have f87 : h66 421 = .inl (0, 300, .inl g) := (hK68 421 (by decide)).trans f62
      refine r_iinc (y := nI (i + 1)) (ls' := [some (.ref 420), some (.int (nI (i + 1))), none]) rfl dX12_clauses_54 rfl (nI_1 i) (Nat.le_of_ble_eq_true rfl) rfl ?_
      refine r_goto (pc' := 11) rfl dX12_clauses_57 ?_
      refine r_aload_n rfl dX12_clauses_11 rfl ?_
      refine cl_X12_92 rfl rfl dX12_clauses_12 (show 2 ≤ 420 ∧ 420 < 434 by decide).1 (show 2 ≤ 420 ∧ 420 < 434 by decide).2 f80 (Nat.le_of_ble_eq_true rfl) (s_X12_isWell0 hS67 f80 (by omega)) ?_
      rintro _ h88 _ ⟨rfl, e89, rfl⟩
      replace e89 := e89.symm
      subst e89
      refine r_if_eq (tgt := 60) rfl rfl dX12_clauses_15 (fun _ => ?_) (fun zc => absurd zc (by decide))
      have e90 : RES.1 = nI (rdS f n (clL f n 8 (rdP f n p) 0 0).2.1) := by rw [← hres, csL, if_neg k56, if_pos c73, if_neg (by rw [c74]; decide)]
      exact hK0 h66 _ _ _ _ _ _ hS67 hF69 f80 (by omega) e90
    · have hF69 := KM_tr hF61 (KM_sb (by decide) hK68)
      have hl91 := (rdS_le f hp).2
      have f92 : h66 421 = .inl (0, 300, .inl g) := (hK68 421 (by decide)).trans f62
      refine r_iinc (y := nI (i + 1)) (ls' := [some (.ref 420), some (.int (nI (i + 1))), none]) rfl dX12_clauses_54 rfl (nI_1 i) (Nat.le_of_ble_eq_true rfl) rfl ?_
      refine r_goto (pc' := 11) rfl dX12_clauses_57 ?_
      refine r_aload_n rfl dX12_clauses_11 rfl ?_
      refine cl_X12_92 rfl rfl dX12_clauses_12 (show 2 ≤ 420 ∧ 420 < 434 by decide).1 (show 2 ≤ 420 ∧ 420 < 434 by decide).2 f80 (Nat.le_of_ble_eq_true rfl) (s_X12_isWell0 hS67 f80 (by omega)) ?_
      rintro _ h93 _ ⟨rfl, e94, rfl⟩
      replace e94 := e94.symm
      subst e94
      refine r_if_eq (tgt := 60) rfl rfl dX12_clauses_15 (fun _ => ?_) (fun zc => absurd zc (by decide))
      have e95 : RES.1 = nI (rdS f n p) := by rw [← hres, csL, if_neg k56, if_neg c73]
      exact hK0 h66 _ _ _ _ _ _ hS67 hF69 f80 (by omega) e95
theorem s_X12_clauses_loop {xs : Nat → Int32} {L d : Nat} {h0 : ev_H} {Q : ev_Q} {f g : Nat → Int32} {n : Nat} {th : Int32} {tr : Int64} {cl md ss wg : Int32} {RES : RS5} (hX : TXR f g n)  (hK1 : ∀ (h' : ev_H) (D' : Nat → Int32) (nx tk pl va : Int32), SH h' → KM [420, 423] h0 h' → h' 420 = c420 th tr (nI n) nx tk pl va (-1) cl md ss wg → h' 423 = cI 48 D' → RES.1 = -1 → DR RES.2.1 D' RES.2.2.1 RES.2.2.2.1 RES.2.2.2.2 → RES.2.1 ≤ 16 → EV xs L (d + 5) 0 0 M_X12_clauses 434 h' 60 [some (.ref 420), some (.int (nI RES.2.1)), none] [] Q) (hK0 : ∀ (h' : ev_H) (x nx tk pl va : Int32) (q : Nat), SH h' → KM [420, 423] h0 h' → h' 420 = c420 th tr (nI n) nx tk pl va (nI q) cl md ss wg → q ≤ 300 → RES.1 = nI q → EV xs L (d + 5) 0 0 M_X12_clauses 434 h' 60 [some (.ref 420), some (.int x), none] [] Q) : ∀ (r i p : Nat) (A B C : Nat → Int32) (w : Int32) (D : Nat → Int32) (h : ev_H), i + r = 16 → p ≤ n → SH h → KM [420, 423] h0 h → h 420 = c420 th tr (nI n) (nI (rdP f n p)) (kmap (tK f n p)) (nI (rdS f n p)) w (-1) cl md ss wg → (tK f n p = 1 ∨ tK f n p = 3 ∨ tK f n p = 4 → w = tV f n p) → h 421 = c421 g → h 423 = cI 48 D → DR i D A B C → csL f n r p i A B C = RES → EV xs L (d + 5) 0 0 M_X12_clauses 434 h 11 [some (.ref 420), some (.int (nI i)), none] [] Q := by
  intro r
  induction r with
  | zero =>
    intro i p A B C w D h hi hp hS hF h5 hw h6 h7 hD hres
    obtain rfl : i = 16 := by omega
    exact s_X12_clauses_z hS hX hp hF h5 hw h6 h7 hD rfl hres hK1 hK0
  | succ r ih =>
    intro i p A B C w D h hi hp hS hF h5 hw h6 h7 hD hres
    exact s_X12_clauses_s hS hX hp hF h5 hw h6 h7 hD hi hres  hK1 hK0 (fun p' A' B' C' w' D' h' q1 q2 q3 q4 q5 q6 q7 q8 q9 => ih (i + 1) p' A' B' C' w' D' h' (by omega) q1 q2 q3 q4 q5 q6 q7 q8 q9)
