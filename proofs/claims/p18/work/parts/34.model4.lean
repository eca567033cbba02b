theorem dX12_advances_0 : decode cX12_advances 0 = .ok (.aload_n 0, 1) := by decide +kernel
theorem dX12_advances_1 : decode cX12_advances 1 = .ok (.aload_n 0, 1) := by decide +kernel
theorem dX12_advances_2 : decode cX12_advances 2 = .ok (.getfield 82, 3) := by decide +kernel
theorem dX12_advances_5 : decode cX12_advances 5 = .ok (.invokevirtual 72, 3) := by decide +kernel
theorem dX12_advances_8 : decode cX12_advances 8 = .ok (.bipush 32, 2) := by decide +kernel
theorem dX12_advances_10 : decode cX12_advances 10 = .ok (.if_icmp .ne 16, 3) := by decide +kernel
theorem dX12_advances_13 : decode cX12_advances 13 = .ok (.aload_n 0, 1) := by decide +kernel
theorem dX12_advances_14 : decode cX12_advances 14 = .ok (.dup, 1) := by decide +kernel
theorem dX12_advances_15 : decode cX12_advances 15 = .ok (.getfield 82, 3) := by decide +kernel
theorem dX12_advances_18 : decode cX12_advances 18 = .ok (.iconst 1, 1) := by decide +kernel
theorem dX12_advances_19 : decode cX12_advances 19 = .ok (.iadd, 1) := by decide +kernel
theorem dX12_advances_20 : decode cX12_advances 20 = .ok (.putfield 82, 3) := by decide +kernel
theorem dX12_advances_23 : decode cX12_advances 23 = .ok (.goto (-23), 3) := by decide +kernel
theorem dX12_advances_26 : decode cX12_advances 26 = .ok (.aload_n 0, 1) := by decide +kernel
theorem dX12_advances_27 : decode cX12_advances 27 = .ok (.aload_n 0, 1) := by decide +kernel
theorem dX12_advances_28 : decode cX12_advances 28 = .ok (.getfield 82, 3) := by decide +kernel
theorem dX12_advances_31 : decode cX12_advances 31 = .ok (.putfield 69, 3) := by decide +kernel
theorem dX12_advances_34 : decode cX12_advances 34 = .ok (.aload_n 0, 1) := by decide +kernel
theorem dX12_advances_35 : decode cX12_advances 35 = .ok (.aload_n 0, 1) := by decide +kernel
theorem dX12_advances_36 : decode cX12_advances 36 = .ok (.getfield 82, 3) := by decide +kernel
theorem dX12_advances_39 : decode cX12_advances 39 = .ok (.invokevirtual 72, 3) := by decide +kernel
theorem dX12_advances_42 : decode cX12_advances 42 = .ok (.istore_n 1, 1) := by decide +kernel
theorem dX12_advances_43 : decode cX12_advances 43 = .ok (.iload_n 1, 1) := by decide +kernel
theorem dX12_advances_44 : decode cX12_advances 44 = .ok (.ifCond .ge 11, 3) := by decide +kernel
theorem dX12_advances_47 : decode cX12_advances 47 = .ok (.aload_n 0, 1) := by decide +kernel
theorem dX12_advances_48 : decode cX12_advances 48 = .ok (.iconst 0, 1) := by decide +kernel
theorem dX12_advances_49 : decode cX12_advances 49 = .ok (.putfield 76, 3) := by decide +kernel
theorem dX12_advances_52 : decode cX12_advances 52 = .ok (.goto 225, 3) := by decide +kernel
theorem dX12_advances_55 : decode cX12_advances 55 = .ok (.iload_n 1, 1) := by decide +kernel
theorem dX12_advances_56 : decode cX12_advances 56 = .ok (.bipush 97, 2) := by decide +kernel
theorem dX12_advances_58 : decode cX12_advances 58 = .ok (.bipush 122, 2) := by decide +kernel
theorem dX12_advances_60 : decode cX12_advances 60 = .ok (.invokestatic 60, 3) := by decide +kernel
theorem dX12_advances_63 : decode cX12_advances 63 = .ok (.ifCond .eq 50, 3) := by decide +kernel
theorem dX12_advances_66 : decode cX12_advances 66 = .ok (.aload_n 0, 1) := by decide +kernel
theorem dX12_advances_67 : decode cX12_advances 67 = .ok (.aload_n 0, 1) := by decide +kernel
theorem dX12_advances_68 : decode cX12_advances 68 = .ok (.getfield 82, 3) := by decide +kernel
theorem dX12_advances_71 : decode cX12_advances 71 = .ok (.invokevirtual 72, 3) := by decide +kernel
theorem dX12_advances_74 : decode cX12_advances 74 = .ok (.bipush 97, 2) := by decide +kernel
theorem dX12_advances_76 : decode cX12_advances 76 = .ok (.bipush 122, 2) := by decide +kernel
theorem dX12_advances_78 : decode cX12_advances 78 = .ok (.invokestatic 60, 3) := by decide +kernel
theorem dX12_advances_81 : decode cX12_advances 81 = .ok (.ifCond .eq 16, 3) := by decide +kernel
theorem dX12_advances_84 : decode cX12_advances 84 = .ok (.aload_n 0, 1) := by decide +kernel
theorem dX12_advances_85 : decode cX12_advances 85 = .ok (.dup, 1) := by decide +kernel
theorem dX12_advances_86 : decode cX12_advances 86 = .ok (.getfield 82, 3) := by decide +kernel
theorem dX12_advances_89 : decode cX12_advances 89 = .ok (.iconst 1, 1) := by decide +kernel
theorem dX12_advances_90 : decode cX12_advances 90 = .ok (.iadd, 1) := by decide +kernel
theorem dX12_advances_91 : decode cX12_advances 91 = .ok (.putfield 82, 3) := by decide +kernel
theorem dX12_advances_94 : decode cX12_advances 94 = .ok (.goto (-28), 3) := by decide +kernel
theorem dX12_advances_97 : decode cX12_advances 97 = .ok (.aload_n 0, 1) := by decide +kernel
theorem dX12_advances_98 : decode cX12_advances 98 = .ok (.aload_n 0, 1) := by decide +kernel
theorem dX12_advances_99 : decode cX12_advances 99 = .ok (.getfield 82, 3) := by decide +kernel
theorem dX12_advances_102 : decode cX12_advances 102 = .ok (.aload_n 0, 1) := by decide +kernel
theorem dX12_advances_103 : decode cX12_advances 103 = .ok (.getfield 69, 3) := by decide +kernel
theorem dX12_advances_106 : decode cX12_advances 106 = .ok (.isub, 1) := by decide +kernel
theorem dX12_advances_107 : decode cX12_advances 107 = .ok (.invokevirtual 85, 3) := by decide +kernel
theorem dX12_advances_110 : decode cX12_advances 110 = .ok (.goto 167, 3) := by decide +kernel
theorem dX12_advances_113 : decode cX12_advances 113 = .ok (.iload_n 1, 1) := by decide +kernel
theorem dX12_advances_114 : decode cX12_advances 114 = .ok (.bipush 48, 2) := by decide +kernel
theorem dX12_advances_116 : decode cX12_advances 116 = .ok (.bipush 57, 2) := by decide +kernel
theorem dX12_advances_118 : decode cX12_advances 118 = .ok (.invokestatic 60, 3) := by decide +kernel
theorem dX12_advances_121 : decode cX12_advances 121 = .ok (.ifCond .eq 119, 3) := by decide +kernel
theorem dX12_advances_124 : decode cX12_advances 124 = .ok (.aload_n 0, 1) := by decide +kernel
theorem dX12_advances_125 : decode cX12_advances 125 = .ok (.iconst 0, 1) := by decide +kernel
theorem dX12_advances_126 : decode cX12_advances 126 = .ok (.putfield 79, 3) := by decide +kernel
theorem dX12_advances_129 : decode cX12_advances 129 = .ok (.aload_n 0, 1) := by decide +kernel
theorem dX12_advances_130 : decode cX12_advances 130 = .ok (.aload_n 0, 1) := by decide +kernel
theorem dX12_advances_131 : decode cX12_advances 131 = .ok (.getfield 82, 3) := by decide +kernel
theorem dX12_advances_134 : decode cX12_advances 134 = .ok (.invokevirtual 72, 3) := by decide +kernel
theorem dX12_advances_137 : decode cX12_advances 137 = .ok (.bipush 48, 2) := by decide +kernel
theorem dX12_advances_139 : decode cX12_advances 139 = .ok (.bipush 57, 2) := by decide +kernel
theorem dX12_advances_141 : decode cX12_advances 141 = .ok (.invokestatic 60, 3) := by decide +kernel
theorem dX12_advances_144 : decode cX12_advances 144 = .ok (.ifCond .eq 55, 3) := by decide +kernel
theorem dX12_advances_147 : decode cX12_advances 147 = .ok (.aload_n 0, 1) := by decide +kernel
theorem dX12_advances_148 : decode cX12_advances 148 = .ok (.aload_n 0, 1) := by decide +kernel
theorem dX12_advances_149 : decode cX12_advances 149 = .ok (.getfield 79, 3) := by decide +kernel
theorem dX12_advances_152 : decode cX12_advances 152 = .ok (.bipush 99, 2) := by decide +kernel
theorem dX12_advances_154 : decode cX12_advances 154 = .ok (.if_icmp .le 10, 3) := by decide +kernel
theorem dX12_advances_157 : decode cX12_advances 157 = .ok (.aload_n 0, 1) := by decide +kernel
theorem dX12_advances_158 : decode cX12_advances 158 = .ok (.getfield 79, 3) := by decide +kernel
theorem dX12_advances_161 : decode cX12_advances 161 = .ok (.goto 22, 3) := by decide +kernel
theorem dX12_advances_164 : decode cX12_advances 164 = .ok (.bipush 10, 2) := by decide +kernel
theorem dX12_advances_166 : decode cX12_advances 166 = .ok (.aload_n 0, 1) := by decide +kernel
theorem dX12_advances_167 : decode cX12_advances 167 = .ok (.getfield 79, 3) := by decide +kernel
theorem dX12_advances_170 : decode cX12_advances 170 = .ok (.imul, 1) := by decide +kernel
theorem dX12_advances_171 : decode cX12_advances 171 = .ok (.aload_n 0, 1) := by decide +kernel
theorem dX12_advances_172 : decode cX12_advances 172 = .ok (.aload_n 0, 1) := by decide +kernel
theorem dX12_advances_173 : decode cX12_advances 173 = .ok (.getfield 82, 3) := by decide +kernel
theorem dX12_advances_176 : decode cX12_advances 176 = .ok (.invokevirtual 72, 3) := by decide +kernel
theorem dX12_advances_179 : decode cX12_advances 179 = .ok (.iadd, 1) := by decide +kernel
theorem dX12_advances_180 : decode cX12_advances 180 = .ok (.bipush 48, 2) := by decide +kernel
theorem dX12_advances_182 : decode cX12_advances 182 = .ok (.isub, 1) := by decide +kernel
theorem dX12_advances_183 : decode cX12_advances 183 = .ok (.putfield 79, 3) := by decide +kernel
theorem dX12_advances_186 : decode cX12_advances 186 = .ok (.aload_n 0, 1) := by decide +kernel
theorem dX12_advances_187 : decode cX12_advances 187 = .ok (.dup, 1) := by decide +kernel
theorem dX12_advances_188 : decode cX12_advances 188 = .ok (.getfield 82, 3) := by decide +kernel
theorem dX12_advances_191 : decode cX12_advances 191 = .ok (.iconst 1, 1) := by decide +kernel
theorem dX12_advances_192 : decode cX12_advances 192 = .ok (.iadd, 1) := by decide +kernel
theorem dX12_advances_193 : decode cX12_advances 193 = .ok (.putfield 82, 3) := by decide +kernel
theorem dX12_advances_196 : decode cX12_advances 196 = .ok (.goto (-67), 3) := by decide +kernel
theorem dX12_advances_199 : decode cX12_advances 199 = .ok (.aload_n 0, 1) := by decide +kernel
theorem dX12_advances_200 : decode cX12_advances 200 = .ok (.aload_n 0, 1) := by decide +kernel
theorem dX12_advances_201 : decode cX12_advances 201 = .ok (.getfield 79, 3) := by decide +kernel
theorem dX12_advances_204 : decode cX12_advances 204 = .ok (.bipush 99, 2) := by decide +kernel
theorem dX12_advances_206 : decode cX12_advances 206 = .ok (.if_icmp .gt 22, 3) := by decide +kernel
theorem dX12_advances_209 : decode cX12_advances 209 = .ok (.iload_n 1, 1) := by decide +kernel
theorem dX12_advances_210 : decode cX12_advances 210 = .ok (.bipush 48, 2) := by decide +kernel
theorem dX12_advances_212 : decode cX12_advances 212 = .ok (.if_icmp .ne 21, 3) := by decide +kernel
theorem dX12_advances_215 : decode cX12_advances 215 = .ok (.aload_n 0, 1) := by decide +kernel
theorem dX12_advances_216 : decode cX12_advances 216 = .ok (.getfield 82, 3) := by decide +kernel
theorem dX12_advances_219 : decode cX12_advances 219 = .ok (.aload_n 0, 1) := by decide +kernel
theorem dX12_advances_220 : decode cX12_advances 220 = .ok (.getfield 69, 3) := by decide +kernel
theorem dX12_advances_223 : decode cX12_advances 223 = .ok (.isub, 1) := by decide +kernel
theorem dX12_advances_224 : decode cX12_advances 224 = .ok (.iconst 1, 1) := by decide +kernel
theorem dX12_advances_225 : decode cX12_advances 225 = .ok (.if_icmp .le 8, 3) := by decide +kernel
theorem dX12_advances_228 : decode cX12_advances 228 = .ok (.bipush 7, 2) := by decide +kernel
theorem dX12_advances_230 : decode cX12_advances 230 = .ok (.goto 4, 3) := by decide +kernel
theorem dX12_advances_233 : decode cX12_advances 233 = .ok (.iconst 4, 1) := by decide +kernel
theorem dX12_advances_234 : decode cX12_advances 234 = .ok (.putfield 76, 3) := by decide +kernel
theorem dX12_advances_237 : decode cX12_advances 237 = .ok (.goto 40, 3) := by decide +kernel
theorem dX12_advances_240 : decode cX12_advances 240 = .ok (.aload_n 0, 1) := by decide +kernel
theorem dX12_advances_241 : decode cX12_advances 241 = .ok (.dup, 1) := by decide +kernel
theorem dX12_advances_242 : decode cX12_advances 242 = .ok (.getfield 82, 3) := by decide +kernel
theorem dX12_advances_245 : decode cX12_advances 245 = .ok (.iconst 1, 1) := by decide +kernel
theorem dX12_advances_246 : decode cX12_advances 246 = .ok (.iadd, 1) := by decide +kernel
theorem dX12_advances_247 : decode cX12_advances 247 = .ok (.putfield 82, 3) := by decide +kernel
theorem dX12_advances_250 : decode cX12_advances 250 = .ok (.aload_n 0, 1) := by decide +kernel
theorem dX12_advances_251 : decode cX12_advances 251 = .ok (.iload_n 1, 1) := by decide +kernel
theorem dX12_advances_252 : decode cX12_advances 252 = .ok (.bipush 33, 2) := by decide +kernel
theorem dX12_advances_254 : decode cX12_advances 254 = .ok (.if_icmp .ne 7, 3) := by decide +kernel
theorem dX12_advances_257 : decode cX12_advances 257 = .ok (.iconst 5, 1) := by decide +kernel
theorem dX12_advances_258 : decode cX12_advances 258 = .ok (.goto 16, 3) := by decide +kernel
theorem dX12_advances_261 : decode cX12_advances 261 = .ok (.iload_n 1, 1) := by decide +kernel
theorem dX12_advances_262 : decode cX12_advances 262 = .ok (.bipush 59, 2) := by decide +kernel
theorem dX12_advances_264 : decode cX12_advances 264 = .ok (.if_icmp .ne 8, 3) := by decide +kernel
theorem dX12_advances_267 : decode cX12_advances 267 = .ok (.bipush 6, 2) := by decide +kernel
theorem dX12_advances_269 : decode cX12_advances 269 = .ok (.goto 5, 3) := by decide +kernel
theorem dX12_advances_272 : decode cX12_advances 272 = .ok (.bipush 7, 2) := by decide +kernel
theorem dX12_advances_274 : decode cX12_advances 274 = .ok (.putfield 76, 3) := by decide +kernel
theorem dX12_advances_277 : decode cX12_advances 277 = .ok (.return_, 1) := by decide +kernel
def mskp (g : Nat → Int32) (n : Nat) : Nat → Nat → Nat
  | 0, p => p
  | m + 1, p => if mbA g n p = 32 then mskp g n m (p + 1) else p
def mwdp (g : Nat → Int32) (n : Nat) : Nat → Nat → Nat
  | 0, p => p
  | m + 1, p => if inR (mbA g n p) 97 122 = 0 then p else mwdp g n m (p + 1)
def mnup (g : Nat → Int32) (n : Nat) : Nat → Nat → Nat
  | 0, p => p
  | m + 1, p => if inR (mbA g n p) 48 57 = 0 then p else mnup g n m (p + 1)
def mnuv (g : Nat → Int32) (n : Nat) : Nat → Nat → Int32 → Int32
  | 0, _, v => v
  | m + 1, p, v => if inR (mbA g n p) 48 57 = 0 then v else mnuv g n m (p + 1) (if v ≤ 99 then 10 * v + mbA g n p - 48 else v)
theorem mbA_n (g : Nat → Int32) (n : Nat) : mbA g n n = -1 := by unfold mbA; rw [if_pos (Nat.le_refl n)]
set_option maxRecDepth 20000 in
theorem s_adv_skip {xs : Nat → Int32} {L d : Nat} {Q : ev_Q} {u : Option Value} {th : Int32} {tr : Int64} {tk pl va fa cl md ss wg : Int32} {g : Nat → Int32} {n : Nat} (hn : n ≤ 300) : ∀ (m p : Nat), p + m = n → ∀  (h : ev_H) (h5 : h 420 = c420 th tr (nI n) (nI p) tk pl va fa cl md ss wg) (h6 : h 421 = c421 g) (hK : ∀ h', h' = va_up h 420 (c420 th tr (nI n) (nI (mskp g n m p)) tk pl va fa cl md ss wg) → EV xs L (d + 1) 0 0 M_X12_advances 434 h' 26 [some (.ref 420), u] [] Q), EV xs L (d + 1) 0 0 M_X12_advances 434 h 0 [some (.ref 420), u] [] Q := by
  intro m
  induction m with
  | zero =>
    intro p hp  h h5 h6 hK
    obtain rfl : n = p := by omega
    refine r_aload_n rfl dX12_advances_0 rfl ?_
    refine r_aload_n rfl dX12_advances_1 rfl ?_
    refine r_getv 4 rfl dX12_advances_2 (show 2 ≤ 420 ∧ 420 < 434 by decide) h5 fl_X12_82 rfl ?_
    refine cl_X12_72 rfl rfl dX12_advances_5 (show 2 ≤ 420 ∧ 420 < 434 by decide).1 (show 2 ≤ 420 ∧ 420 < 434 by decide).2 h5 (Nat.le_of_ble_eq_true rfl) (s_X12_byteAt (q := n) hn (by omega) h5 h6) ?_
    rintro _ h101 _ ⟨rfl, e102, rfl⟩
    replace e102 := e102.symm
    subst e102
    refine r_bipush (v := 32) rfl dX12_advances_8 (by decide) ?_
    refine r_icmp_ne (tgt := 26) rfl rfl dX12_advances_10 (fun _ => ?_) (fun c => absurd c (by rw [mbA_n]; decide))
    exact hK h (va_up_id h5).symm
  | succ m ih =>
    intro p hp  h h5 h6 hK
    refine r_aload_n rfl dX12_advances_0 rfl ?_
    refine r_aload_n rfl dX12_advances_1 rfl ?_
    refine r_getv 4 rfl dX12_advances_2 (show 2 ≤ 420 ∧ 420 < 434 by decide) h5 fl_X12_82 rfl ?_
    refine cl_X12_72 rfl rfl dX12_advances_5 (show 2 ≤ 420 ∧ 420 < 434 by decide).1 (show 2 ≤ 420 ∧ 420 < 434 by decide).2 h5 (Nat.le_of_ble_eq_true rfl) (s_X12_byteAt (q := p) hn (by omega) h5 h6) ?_
    rintro _ h301 _ ⟨rfl, e302, rfl⟩
    replace e302 := e302.symm
    subst e302
    refine r_bipush (v := 32) rfl dX12_advances_8 (by decide) ?_
    refine r_icmp_ne (tgt := 26) rfl rfl dX12_advances_10 (fun c303 => ?_) (fun c303 => ?_)
    · exact hK h (by rw [mskp, if_neg c303]; exact (va_up_id h5).symm)
    · refine r_aload_n rfl dX12_advances_13 rfl ?_
      refine r_dup rfl dX12_advances_14 rfl ?_
      refine r_getv 4 rfl dX12_advances_15 (show 2 ≤ 420 ∧ 420 < 434 by decide) h5 fl_X12_82 rfl ?_
      refine r_iconst (v := 1) rfl dX12_advances_18 (by decide) ?_
      refine r_iadd rfl dX12_advances_19 ?_
      refine r_eqi (y := nI (p + 1)) (nI_1 p) ?_
      refine r_putv 4 (fs' := [.int th, .long tr, .ref 421, .int (nI n), .int (nI (p + 1)), .int tk, .int pl, .int va, .int fa, .int cl, .int md, .int ss, .int wg, .ref 422, .ref 423, .ref 424, .ref 425, .ref 426, .ref 427, .ref 428, .ref 429, .ref 430, .ref 431, .ref 432, .ref 433]) rfl dX12_advances_20 (show 2 ≤ 420 ∧ 420 < 434 by decide) h5 (fp_X12_82 rfl _) (Nat.le_of_ble_eq_true rfl) rfl (fun h304 eh305 => ?_)
      have f306 : h304 420 = .inr (12, [.int th, .long tr, .ref 421, .int (nI n), .int (nI (p + 1)), .int tk, .int pl, .int va, .int fa, .int cl, .int md, .int ss, .int wg, .ref 422, .ref 423, .ref 424, .ref 425, .ref 426, .ref 427, .ref 428, .ref 429, .ref 430, .ref 431, .ref 432, .ref 433]) := by rw [eh305]; exact va_up_self _ _ _
      have f307 : h304 421 = .inl (0, 300, .inl g) := by rw [eh305, va_up_ne _ _ (fun q => by rw [q, h5] at h6; cases h6)]; exact h6
      refine r_goto (pc' := 0) rfl dX12_advances_23 ?_
      refine ih (p + 1) (by omega)  h304 f306 f307 (fun h' e' => hK h' ?_)
      subst eh305
      rw [e', mskp, if_pos c303]
      simp only [va_up_up]
set_option maxRecDepth 20000 in
theorem s_adv_word {xs : Nat → Int32} {L d : Nat} {Q : ev_Q} {u : Option Value} {th : Int32} {tr : Int64} {tk pl va fa cl md ss wg : Int32} {g : Nat → Int32} {n : Nat} (hn : n ≤ 300) : ∀ (m p : Nat), p + m = n → ∀  (h : ev_H) (h5 : h 420 = c420 th tr (nI n) (nI p) tk pl va fa cl md ss wg) (h6 : h 421 = c421 g) (hK : ∀ h', h' = va_up h 420 (c420 th tr (nI n) (nI (mwdp g n m p)) tk pl va fa cl md ss wg) → EV xs L (d + 1) 0 0 M_X12_advances 434 h' 97 [some (.ref 420), u] [] Q), EV xs L (d + 1) 0 0 M_X12_advances 434 h 66 [some (.ref 420), u] [] Q := by
  intro m
  induction m with
  | zero =>
    intro p hp  h h5 h6 hK
    obtain rfl : n = p := by omega
    refine r_aload_n rfl dX12_advances_66 rfl ?_
    refine r_aload_n rfl dX12_advances_67 rfl ?_
    refine r_getv 4 rfl dX12_advances_68 (show 2 ≤ 420 ∧ 420 < 434 by decide) h5 fl_X12_82 rfl ?_
    refine cl_X12_72 rfl rfl dX12_advances_71 (show 2 ≤ 420 ∧ 420 < 434 by decide).1 (show 2 ≤ 420 ∧ 420 < 434 by decide).2 h5 (Nat.le_of_ble_eq_true rfl) (s_X12_byteAt (q := n) hn (by omega) h5 h6) ?_
    rintro _ h101 _ ⟨rfl, e102, rfl⟩
    replace e102 := e102.symm
    subst e102
    refine r_bipush (v := 97) rfl dX12_advances_74 (by decide) ?_
    refine r_bipush (v := 122) rfl dX12_advances_76 (by decide) ?_
    refine cl_X12_60 rfl rfl dX12_advances_78 (Nat.le_of_ble_eq_true rfl) s_X12_in ?_
    rintro _ h103 _ ⟨rfl, e104, rfl⟩
    replace e104 := e104.symm
    subst e104
    refine r_if_eq (tgt := 97) rfl rfl dX12_advances_81 (fun _ => ?_) (fun c => absurd c (fun z => z (by rw [mbA_n]; decide)))
    exact hK h (va_up_id h5).symm
  | succ m ih =>
    intro p hp  h h5 h6 hK
    refine r_aload_n rfl dX12_advances_66 rfl ?_
    refine r_aload_n rfl dX12_advances_67 rfl ?_
    refine r_getv 4 rfl dX12_advances_68 (show 2 ≤ 420 ∧ 420 < 434 by decide) h5 fl_X12_82 rfl ?_
    refine cl_X12_72 rfl rfl dX12_advances_71 (show 2 ≤ 420 ∧ 420 < 434 by decide).1 (show 2 ≤ 420 ∧ 420 < 434 by decide).2 h5 (Nat.le_of_ble_eq_true rfl) (s_X12_byteAt (q := p) hn (by omega) h5 h6) ?_
    rintro _ h301 _ ⟨rfl, e302, rfl⟩
    replace e302 := e302.symm
    subst e302
    refine r_bipush (v := 97) rfl dX12_advances_74 (by decide) ?_
    refine r_bipush (v := 122) rfl dX12_advances_76 (by decide) ?_
    refine cl_X12_60 rfl rfl dX12_advances_78 (Nat.le_of_ble_eq_true rfl) s_X12_in ?_
    rintro _ h303 _ ⟨rfl, e304, rfl⟩
    replace e304 := e304.symm
    subst e304
    refine r_if_eq (tgt := 97) rfl rfl dX12_advances_81 (fun c305 => ?_) (fun c305 => ?_)
    · exact hK h (by rw [mwdp, if_pos c305]; exact (va_up_id h5).symm)
    · refine r_aload_n rfl dX12_advances_84 rfl ?_
      refine r_dup rfl dX12_advances_85 rfl ?_
      refine r_getv 4 rfl dX12_advances_86 (show 2 ≤ 420 ∧ 420 < 434 by decide) h5 fl_X12_82 rfl ?_
      refine r_iconst (v := 1) rfl dX12_advances_89 (by decide) ?_
      refine r_iadd rfl dX12_advances_90 ?_
      refine r_eqi (y := nI (p + 1)) (nI_1 p) ?_
      refine r_putv 4 (fs' := [.int th, .long tr, .ref 421, .int (nI n), .int (nI (p + 1)), .int tk, .int pl, .int va, .int fa, .int cl, .int md, .int ss, .int wg, .ref 422, .ref 423, .ref 424, .ref 425, .ref 426, .ref 427, .ref 428, .ref 429, .ref 430, .ref 431, .ref 432, .ref 433]) rfl dX12_advances_91 (show 2 ≤ 420 ∧ 420 < 434 by decide) h5 (fp_X12_82 rfl _) (Nat.le_of_ble_eq_true rfl) rfl (fun h306 eh307 => ?_)
      have f308 : h306 420 = .inr (12, [.int th, .long tr, .ref 421, .int (nI n), .int (nI (p + 1)), .int tk, .int pl, .int va, .int fa, .int cl, .int md, .int ss, .int wg, .ref 422, .ref 423, .ref 424, .ref 425, .ref 426, .ref 427, .ref 428, .ref 429, .ref 430, .ref 431, .ref 432, .ref 433]) := by rw [eh307]; exact va_up_self _ _ _
      have f309 : h306 421 = .inl (0, 300, .inl g) := by rw [eh307, va_up_ne _ _ (fun q => by rw [q, h5] at h6; cases h6)]; exact h6
      refine r_goto (pc' := 66) rfl dX12_advances_94 ?_
      refine ih (p + 1) (by omega)  h306 f308 f309 (fun h' e' => hK h' ?_)
      subst eh307
      rw [e', mwdp, if_neg c305]
      simp only [va_up_up]
set_option maxRecDepth 20000 in
theorem s_adv_num {xs : Nat → Int32} {L d : Nat} {Q : ev_Q} {u : Option Value} {th : Int32} {tr : Int64} {tk pl fa cl md ss wg : Int32} {g : Nat → Int32} {n : Nat} (hn : n ≤ 300) : ∀ (m p : Nat), p + m = n → ∀ (va : Int32) (h : ev_H) (h5 : h 420 = c420 th tr (nI n) (nI p) tk pl va fa cl md ss wg) (h6 : h 421 = c421 g) (hK : ∀ h', h' = va_up h 420 (c420 th tr (nI n) (nI (mnup g n m p)) tk pl (mnuv g n m p va) fa cl md ss wg) → EV xs L (d + 1) 0 0 M_X12_advances 434 h' 199 [some (.ref 420), u] [] Q), EV xs L (d + 1) 0 0 M_X12_advances 434 h 129 [some (.ref 420), u] [] Q := by
  intro m
  induction m with
  | zero =>
    intro p hp va h h5 h6 hK
    obtain rfl : n = p := by omega
    refine r_aload_n rfl dX12_advances_129 rfl ?_
    refine r_aload_n rfl dX12_advances_130 rfl ?_
    refine r_getv 4 rfl dX12_advances_131 (show 2 ≤ 420 ∧ 420 < 434 by decide) h5 fl_X12_82 rfl ?_
    refine cl_X12_72 rfl rfl dX12_advances_134 (show 2 ≤ 420 ∧ 420 < 434 by decide).1 (show 2 ≤ 420 ∧ 420 < 434 by decide).2 h5 (Nat.le_of_ble_eq_true rfl) (s_X12_byteAt (q := n) hn (by omega) h5 h6) ?_
    rintro _ h101 _ ⟨rfl, e102, rfl⟩
    replace e102 := e102.symm
    subst e102
    refine r_bipush (v := 48) rfl dX12_advances_137 (by decide) ?_
    refine r_bipush (v := 57) rfl dX12_advances_139 (by decide) ?_
    refine cl_X12_60 rfl rfl dX12_advances_141 (Nat.le_of_ble_eq_true rfl) s_X12_in ?_
    rintro _ h103 _ ⟨rfl, e104, rfl⟩
    replace e104 := e104.symm
    subst e104
    refine r_if_eq (tgt := 199) rfl rfl dX12_advances_144 (fun _ => ?_) (fun c => absurd c (fun z => z (by rw [mbA_n]; decide)))
    exact hK h (va_up_id h5).symm
  | succ m ih =>
    intro p hp va h h5 h6 hK
    refine r_aload_n rfl dX12_advances_129 rfl ?_
    refine r_aload_n rfl dX12_advances_130 rfl ?_
    refine r_getv 4 rfl dX12_advances_131 (show 2 ≤ 420 ∧ 420 < 434 by decide) h5 fl_X12_82 rfl ?_
    refine cl_X12_72 rfl rfl dX12_advances_134 (show 2 ≤ 420 ∧ 420 < 434 by decide).1 (show 2 ≤ 420 ∧ 420 < 434 by decide).2 h5 (Nat.le_of_ble_eq_true rfl) (s_X12_byteAt (q := p) hn (by omega) h5 h6) ?_
    rintro _ h301 _ ⟨rfl, e302, rfl⟩
    replace e302 := e302.symm
    subst e302
    refine r_bipush (v := 48) rfl dX12_advances_137 (by decide) ?_
    refine r_bipush (v := 57) rfl dX12_advances_139 (by decide) ?_
    refine cl_X12_60 rfl rfl dX12_advances_141 (Nat.le_of_ble_eq_true rfl) s_X12_in ?_
    rintro _ h303 _ ⟨rfl, e304, rfl⟩
    replace e304 := e304.symm
    subst e304
    refine r_if_eq (tgt := 199) rfl rfl dX12_advances_144 (fun c305 => ?_) (fun c305 => ?_)
    · exact hK h (by rw [mnup, mnuv, if_pos c305, if_pos c305]; exact (va_up_id h5).symm)
    · refine r_aload_n rfl dX12_advances_147 rfl ?_
      refine r_aload_n rfl dX12_advances_148 rfl ?_
      refine r_getv 7 rfl dX12_advances_149 (show 2 ≤ 420 ∧ 420 < 434 by decide) h5 fl_X12_79 rfl ?_
      refine r_bipush (v := 99) rfl dX12_advances_152 (by decide) ?_
      refine r_icmp_le (tgt := 164) rfl rfl dX12_advances_154 (fun c306 => ?_) (fun c306 => ?_)
      · refine r_bipush (v := 10) rfl dX12_advances_164 (by decide) ?_
        refine r_aload_n rfl dX12_advances_166 rfl ?_
        refine r_getv 7 rfl dX12_advances_167 (show 2 ≤ 420 ∧ 420 < 434 by decide) h5 fl_X12_79 rfl ?_
        refine r_imul rfl dX12_advances_170 ?_
        refine r_aload_n rfl dX12_advances_171 rfl ?_
        refine r_aload_n rfl dX12_advances_172 rfl ?_
        refine r_getv 4 rfl dX12_advances_173 (show 2 ≤ 420 ∧ 420 < 434 by decide) h5 fl_X12_82 rfl ?_
        refine cl_X12_72 rfl rfl dX12_advances_176 (show 2 ≤ 420 ∧ 420 < 434 by decide).1 (show 2 ≤ 420 ∧ 420 < 434 by decide).2 h5 (Nat.le_of_ble_eq_true rfl) (s_X12_byteAt (q := p) hn (by omega) h5 h6) ?_
        rintro _ h307 _ ⟨rfl, e308, rfl⟩
        replace e308 := e308.symm
        subst e308
        refine r_iadd rfl dX12_advances_179 ?_
        refine r_bipush (v := 48) rfl dX12_advances_180 (by decide) ?_
        refine r_isub rfl dX12_advances_182 ?_
        refine r_topi (fun x309 e310 => ?_)
        refine r_putv 7 (fs' := [.int th, .long tr, .ref 421, .int (nI n), .int (nI p), .int tk, .int pl, .int x309, .int fa, .int cl, .int md, .int ss, .int wg, .ref 422, .ref 423, .ref 424, .ref 425, .ref 426, .ref 427, .ref 428, .ref 429, .ref 430, .ref 431, .ref 432, .ref 433]) rfl dX12_advances_183 (show 2 ≤ 420 ∧ 420 < 434 by decide) h5 (fp_X12_79 rfl _) (Nat.le_of_ble_eq_true rfl) rfl (fun h311 eh312 => ?_)
        have f313 : h311 420 = .inr (12, [.int th, .long tr, .ref 421, .int (nI n), .int (nI p), .int tk, .int pl, .int x309, .int fa, .int cl, .int md, .int ss, .int wg, .ref 422, .ref 423, .ref 424, .ref 425, .ref 426, .ref 427, .ref 428, .ref 429, .ref 430, .ref 431, .ref 432, .ref 433]) := by rw [eh312]; exact va_up_self _ _ _
        have f314 : h311 421 = .inl (0, 300, .inl g) := by rw [eh312, va_up_ne _ _ (fun q => by rw [q, h5] at h6; cases h6)]; exact h6
        refine r_aload_n rfl dX12_advances_186 rfl ?_
        refine r_dup rfl dX12_advances_187 rfl ?_
        refine r_getv 4 rfl dX12_advances_188 (show 2 ≤ 420 ∧ 420 < 434 by decide) f313 fl_X12_82 rfl ?_
        refine r_iconst (v := 1) rfl dX12_advances_191 (by decide) ?_
        refine r_iadd rfl dX12_advances_192 ?_
        refine r_eqi (y := nI (p + 1)) (nI_1 p) ?_
        refine r_putv 4 (fs' := [.int th, .long tr, .ref 421, .int (nI n), .int (nI (p + 1)), .int tk, .int pl, .int x309, .int fa, .int cl, .int md, .int ss, .int wg, .ref 422, .ref 423, .ref 424, .ref 425, .ref 426, .ref 427, .ref 428, .ref 429, .ref 430, .ref 431, .ref 432, .ref 433]) rfl dX12_advances_193 (show 2 ≤ 420 ∧ 420 < 434 by decide) f313 (fp_X12_82 rfl _) (Nat.le_of_ble_eq_true rfl) rfl (fun h315 eh316 => ?_)
        have f317 : h315 420 = .inr (12, [.int th, .long tr, .ref 421, .int (nI n), .int (nI (p + 1)), .int tk, .int pl, .int x309, .int fa, .int cl, .int md, .int ss, .int wg, .ref 422, .ref 423, .ref 424, .ref 425, .ref 426, .ref 427, .ref 428, .ref 429, .ref 430, .ref 431, .ref 432, .ref 433]) := by rw [eh316]; exact va_up_self _ _ _
        have f318 : h315 421 = .inl (0, 300, .inl g) := by rw [eh316, va_up_ne _ _ (fun q => by rw [q, f313] at f314; cases f314)]; exact f314
        refine r_goto (pc' := 129) rfl dX12_advances_196 ?_
        refine ih (p + 1) (by omega) x309 h315 f317 f318 (fun h' e' => hK h' ?_)
        subst e310
        subst eh316
        subst eh312
        rw [e', mnup, mnuv, if_neg c305, if_neg c305, if_pos c306]
        simp only [va_up_up]
      · refine r_aload_n rfl dX12_advances_157 rfl ?_
        refine r_getv 7 rfl dX12_advances_158 (show 2 ≤ 420 ∧ 420 < 434 by decide) h5 fl_X12_79 rfl ?_
        refine r_goto (pc' := 183) rfl dX12_advances_161 ?_
        refine r_putv 7 (fs' := [.int th, .long tr, .ref 421, .int (nI n), .int (nI p), .int tk, .int pl, .int va, .int fa, .int cl, .int md, .int ss, .int wg, .ref 422, .ref 423, .ref 424, .ref 425, .ref 426, .ref 427, .ref 428, .ref 429, .ref 430, .ref 431, .ref 432, .ref 433]) rfl dX12_advances_183 (show 2 ≤ 420 ∧ 420 < 434 by decide) h5 (fp_X12_79 rfl _) (Nat.le_of_ble_eq_true rfl) rfl (fun h319 eh320 => ?_)
        have f321 : h319 420 = .inr (12, [.int th, .long tr, .ref 421, .int (nI n), .int (nI p), .int tk, .int pl, .int va, .int fa, .int cl, .int md, .int ss, .int wg, .ref 422, .ref 423, .ref 424, .ref 425, .ref 426, .ref 427, .ref 428, .ref 429, .ref 430, .ref 431, .ref 432, .ref 433]) := by rw [eh320]; exact va_up_self _ _ _
        have f322 : h319 421 = .inl (0, 300, .inl g) := by rw [eh320, va_up_ne _ _ (fun q => by rw [q, h5] at h6; cases h6)]; exact h6
        refine r_aload_n rfl dX12_advances_186 rfl ?_
        refine r_dup rfl dX12_advances_187 rfl ?_
        refine r_getv 4 rfl dX12_advances_188 (show 2 ≤ 420 ∧ 420 < 434 by decide) f321 fl_X12_82 rfl ?_
        refine r_iconst (v := 1) rfl dX12_advances_191 (by decide) ?_
        refine r_iadd rfl dX12_advances_192 ?_
        refine r_eqi (y := nI (p + 1)) (nI_1 p) ?_
        refine r_putv 4 (fs' := [.int th, .long tr, .ref 421, .int (nI n), .int (nI (p + 1)), .int tk, .int pl, .int va, .int fa, .int cl, .int md, .int ss, .int wg, .ref 422, .ref 423, .ref 424, .ref 425, .ref 426, .ref 427, .ref 428, .ref 429, .ref 430, .ref 431, .ref 432, .ref 433]) rfl dX12_advances_193 (show 2 ≤ 420 ∧ 420 < 434 by decide) f321 (fp_X12_82 rfl _) (Nat.le_of_ble_eq_true rfl) rfl (fun h323 eh324 => ?_)
        have f325 : h323 420 = .inr (12, [.int th, .long tr, .ref 421, .int (nI n), .int (nI (p + 1)), .int tk, .int pl, .int va, .int fa, .int cl, .int md, .int ss, .int wg, .ref 422, .ref 423, .ref 424, .ref 425, .ref 426, .ref 427, .ref 428, .ref 429, .ref 430, .ref 431, .ref 432, .ref 433]) := by rw [eh324]; exact va_up_self _ _ _
        have f326 : h323 421 = .inl (0, 300, .inl g) := by rw [eh324, va_up_ne _ _ (fun q => by rw [q, f321] at f322; cases f322)]; exact f322
        refine r_goto (pc' := 129) rfl dX12_advances_196 ?_
        refine ih (p + 1) (by omega) va h323 f325 f326 (fun h' e' => hK h' ?_)
        subst eh324
        subst eh320
        rw [e', mnup, mnuv, if_neg c305, if_neg c305, if_neg c306]
        simp only [va_up_up]
