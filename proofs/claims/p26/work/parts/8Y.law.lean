abbrev M_L_law : ev_M := M_law
theorem lgc0 {x y : Int64} : lg_cmp x y = 0 ↔ x = y := by
  unfold lg_cmp
  by_cases h1 : x > y
  · rw [if_pos h1]
    exact ⟨fun z => absurd z (by decide), fun z => by subst z; exact absurd h1 (Int64.lt_irrefl)⟩
  · rw [if_neg h1]
    by_cases h2 : x = y
    · rw [if_pos h2]; exact ⟨fun _ => h2, fun _ => rfl⟩
    · rw [if_neg h2]; exact ⟨fun z => absurd z (by decide), fun z => absurd z h2⟩
theorem law_in {L j : Nat} (hL : L ≤ 2048) (hj : 4 * j + 4 ≤ L) : ¬ Int32.ofNat L - 4 < nI (4 * j) := by
  rw [Int32.lt_iff_toInt_lt, show Int32.ofNat L - 4 = nI L - nI 4 from rfl, pk_sub_toInt (by omega) (by decide), nI_toInt (by omega)]
  omega
theorem law_out {L j : Nat} (hL : L ≤ 2048 ∧ 4 * j ≤ L + 4) (hj : L < 4 * j + 4) : Int32.ofNat L - 4 < nI (4 * j) := by
  rw [Int32.lt_iff_toInt_lt, show Int32.ofNat L - 4 = nI L - nI 4 from rfl, pk_sub_toInt (by omega) (by decide), nI_toInt (by omega)]
  omega
set_option maxRecDepth 20000 in
set_option maxHeartbeats 4000000 in
theorem law_step {xs : Nat → Int32} {L d kc ks : Nat} {h : ev_H} {n c m t j : Nat} {wr : Int32} {s : Int64} {f g G : Nat → Int32} (hS : SH h) (hI : IC5 n c m t wr s f G h) (hJ : IM5 n c m t wr s g G h) (hX : TXR f g n) (hc : c ≤ 16) (hm : m ≤ 24) (hL : L ≤ 2048) (hj : 4 * j + 4 ≤ L) (ih : ∀ (h' : ev_H) (n' c' m' t' : Nat) (wr' : Int32) (s' : Int64) (f' g' G' : Nat → Int32), SH h' → IC5 n' c' m' t' wr' s' f' G' h' → IM5 n' c' m' t' wr' s' g' G' h' → TXR f' g' n' → c' ≤ 16 → m' ≤ 24 → EV xs L (d + 23) kc ks M_L_law 434 h' 18 [some (.ref 0), some (.ref 2), some (.ref 420), some (.int (nI (4 * (j + 1))))] [] (fun _ _ r => r = [.int 1])) : EV xs L (d + 23) kc ks M_L_law 434 h 18 [some (.ref 0), some (.ref 2), some (.ref 420), some (.int (nI (4 * j)))] [] (fun _ _ r => r = [.int 1]) := by
  refine r_iload_n rfl dL_law_18 rfl ?_
  refine r_aload_n rfl dL_law_19 rfl ?_
  refine r_slen rfl dL_law_20 ?_
  refine r_iconst (v := 4) rfl dL_law_21 (by decide) ?_
  refine r_isub rfl dL_law_22 ?_
  refine r_icmp_gt (tgt := 790) rfl rfl dL_law_23 (fun zc => absurd zc (law_in hL hj)) (fun _ => ?_)
  refine r_aload_n rfl dL_law_26 rfl ?_
  refine r_iload_n rfl dL_law_27 rfl ?_
  refine r_sld (jn := 4 * j) rfl dL_law_28 (vp_in_nI (n := 4 * j) (by omega) (by omega)) (nI_clamp (n := 4 * j) (by omega)) ?_
  refine r_bipush (v := 31) rfl dL_law_29 (by decide) ?_
  refine r_iand rfl dL_law_31 ?_
  refine r_topi (fun x51 e52 => ?_)
  by_cases c53 : x51.toInt < 0 ∨ 24 < x51.toInt
  · refine r_swO (tgt := 784) dL_law_32 rfl c53 ?_
    refine r_iinc (y := nI (4 * j + 4)) (ls' := [some (.ref 0), some (.ref 2), some (.ref 420), some (.int (nI (4 * j + 4)))]) rfl dL_law_784 rfl (show nI (4 * j) + Int32.ofInt 4 = nI (4 * j + 4) from nI_add (4 * j) 4) (Nat.le_of_ble_eq_true rfl) rfl ?_
    refine r_goto (pc' := 18) rfl dL_law_787 ?_
    rw [show 4 * j + 4 = 4 * (j + 1) by omega]
    exact ih h _ _ _ _ _ _ _ _ _ hS hI hJ hX hc hm
  · have c53a : ¬ x51.toInt < 0 := fun z => c53 (Or.inl z)
    have c53b : ¬ 24 < x51.toInt := fun z => c53 (Or.inr z)
    rcases (show x51.toInt = 0 ∨ x51.toInt = 1 ∨ x51.toInt = 2 ∨ x51.toInt = 3 ∨ x51.toInt = 4 ∨ x51.toInt = 5 ∨ x51.toInt = 6 ∨ x51.toInt = 7 ∨ x51.toInt = 8 ∨ x51.toInt = 9 ∨ x51.toInt = 10 ∨ x51.toInt = 11 ∨ x51.toInt = 12 ∨ x51.toInt = 13 ∨ x51.toInt = 14 ∨ x51.toInt = 15 ∨ x51.toInt = 16 ∨ x51.toInt = 17 ∨ x51.toInt = 18 ∨ x51.toInt = 19 ∨ x51.toInt = 20 ∨ x51.toInt = 21 ∨ x51.toInt = 22 ∨ x51.toInt = 23 ∨ x51.toInt = 24 by omega) with c53e | c53e | c53e | c53e | c53e | c53e | c53e | c53e | c53e | c53e | c53e | c53e | c53e | c53e | c53e | c53e | c53e | c53e | c53e | c53e | c53e | c53e | c53e | c53e | c53e
    · refine r_swI (off := 116) (tgt := 148) dL_law_32 rfl c53a c53b (by rw [c53e]; rfl) ?_
      refine r_aload_n rfl dL_law_148 rfl ?_
      refine r_aload_n rfl dL_law_149 rfl ?_
      refine r_iload_n rfl dL_law_150 rfl ?_
      refine r_iconst (v := 1) rfl dL_law_151 (by decide) ?_
      refine r_iadd rfl dL_law_152 ?_
      refine r_eqi (y := nI ((4 * j) + 1)) (show (nI (4 * j)) + 1 = nI ((4 * j) + 1) from nI_add (4 * j) 1) ?_
      refine r_sld (jn := (4 * j) + 1) rfl dL_law_153 (vp_in_nI (n := (4 * j) + 1) (by omega) (by omega)) (nI_clamp (n := (4 * j) + 1) (by omega)) ?_
      refine r_i2l rfl dL_law_154 ?_
      refine r_bipush (v := 32) rfl dL_law_155 (by decide) ?_
      refine r_lshl rfl dL_law_157 ?_
      refine r_aload_n rfl dL_law_158 rfl ?_
      refine r_iload_n rfl dL_law_159 rfl ?_
      refine r_iconst (v := 2) rfl dL_law_160 (by decide) ?_
      refine r_iadd rfl dL_law_161 ?_
      refine r_eqi (y := nI ((4 * j) + 2)) (show (nI (4 * j)) + 2 = nI ((4 * j) + 2) from nI_add (4 * j) 2) ?_
      refine r_sld (jn := (4 * j) + 2) rfl dL_law_162 (vp_in_nI (n := (4 * j) + 2) (by omega) (by omega)) (nI_clamp (n := (4 * j) + 2) (by omega)) ?_
      refine r_i2l rfl dL_law_163 ?_
      refine r_ldc2 (v := 4294967295) rfl dL_law_164 lc_L_13 ?_
      refine r_land rfl dL_law_167 ?_
      refine r_lor rfl dL_law_168 ?_
      refine r_aload_n rfl dL_law_169 rfl ?_
      refine r_iload_n rfl dL_law_170 rfl ?_
      refine r_iconst (v := 3) rfl dL_law_171 (by decide) ?_
      refine r_iadd rfl dL_law_172 ?_
      refine r_eqi (y := nI ((4 * j) + 3)) (show (nI (4 * j)) + 3 = nI ((4 * j) + 3) from nI_add (4 * j) 3) ?_
      refine r_sld (jn := (4 * j) + 3) rfl dL_law_173 (vp_in_nI (n := (4 * j) + 3) (by omega) (by omega)) (nI_clamp (n := (4 * j) + 3) (by omega)) ?_
      obtain ⟨fs60, f59⟩ := hI.o2
      refine cl_L_15 rfl rfl dL_law_174 (by decide) (by decide) f59 (Nat.le_of_ble_eq_true rfl) (k5_type hS hI hX.1 (by omega)) ?_
      rintro _ h54 _ ⟨rfl, hS55, hI56, hk57, rfl⟩
      have hI64 := hJ.ku hk57
      refine r_pop rfl dL_law_177 rfl ?_
      refine r_aload_n rfl dL_law_178 rfl ?_
      refine r_aload_n rfl dL_law_179 rfl ?_
      refine r_iload_n rfl dL_law_180 rfl ?_
      refine r_iconst (v := 1) rfl dL_law_181 (by decide) ?_
      refine r_iadd rfl dL_law_182 ?_
      refine r_eqi (y := nI ((4 * j) + 1)) (show (nI (4 * j)) + 1 = nI ((4 * j) + 1) from nI_add (4 * j) 1) ?_
      refine r_sld (jn := (4 * j) + 1) rfl dL_law_183 (vp_in_nI (n := (4 * j) + 1) (by omega) (by omega)) (nI_clamp (n := (4 * j) + 1) (by omega)) ?_
      refine r_i2l rfl dL_law_184 ?_
      refine r_bipush (v := 32) rfl dL_law_185 (by decide) ?_
      refine r_lshl rfl dL_law_187 ?_
      refine r_aload_n rfl dL_law_188 rfl ?_
      refine r_iload_n rfl dL_law_189 rfl ?_
      refine r_iconst (v := 2) rfl dL_law_190 (by decide) ?_
      refine r_iadd rfl dL_law_191 ?_
      refine r_eqi (y := nI ((4 * j) + 2)) (show (nI (4 * j)) + 2 = nI ((4 * j) + 2) from nI_add (4 * j) 2) ?_
      refine r_sld (jn := (4 * j) + 2) rfl dL_law_192 (vp_in_nI (n := (4 * j) + 2) (by omega) (by omega)) (nI_clamp (n := (4 * j) + 2) (by omega)) ?_
      refine r_i2l rfl dL_law_193 ?_
      refine r_ldc2 (v := 4294967295) rfl dL_law_194 lc_L_13 ?_
      refine r_land rfl dL_law_197 ?_
      refine r_lor rfl dL_law_198 ?_
      refine r_aload_n rfl dL_law_199 rfl ?_
      refine r_iload_n rfl dL_law_200 rfl ?_
      refine r_iconst (v := 3) rfl dL_law_201 (by decide) ?_
      refine r_iadd rfl dL_law_202 ?_
      refine r_eqi (y := nI ((4 * j) + 3)) (show (nI (4 * j)) + 3 = nI ((4 * j) + 3) from nI_add (4 * j) 3) ?_
      refine r_sld (jn := (4 * j) + 3) rfl dL_law_203 (vp_in_nI (n := (4 * j) + 3) (by omega) (by omega)) (nI_clamp (n := (4 * j) + 3) (by omega)) ?_
      obtain ⟨fs71, f70⟩ := hI64.o5
      refine cl_L_19 rfl rfl dL_law_204 (by decide) (by decide) f70 (Nat.le_of_ble_eq_true rfl) (j5_type hS55 hI64 hX.1) ?_
      rintro _ h65 _ ⟨rfl, hS66, hI67, hk68, rfl⟩
      have hI75 := hI56.kd (by omega) hk68
      have hX72 := apb_TX (v := (((xs ((4 * j) + 1) : Int32).toInt64) <<< ((32 : Int32).toInt64 &&& 63)) ||| (((xs ((4 * j) + 2) : Int32).toInt64) &&& 4294967295)) (tyO (xs ((4 * j) + 3)) n) n f g hX (tyO_le (xs ((4 * j) + 3)) n hX.1).2 (tyO_le (xs ((4 * j) + 3)) n hX.1).1
      refine r_pop rfl dL_law_207 rfl ?_
      refine r_goto (pc' := 784) rfl dL_law_208 ?_
      refine r_iinc (y := nI (4 * j + 4)) (ls' := [some (.ref 0), some (.ref 2), some (.ref 420), some (.int (nI (4 * j + 4)))]) rfl dL_law_784 rfl (show nI (4 * j) + Int32.ofInt 4 = nI (4 * j + 4) from nI_add (4 * j) 4) (Nat.le_of_ble_eq_true rfl) rfl ?_
      refine r_goto (pc' := 18) rfl dL_law_787 ?_
      rw [show 4 * j + 4 = 4 * (j + 1) by omega]
      exact ih h65 _ _ _ _ _ _ _ _ _ hS66 hI75 hI67 hX72 hc hm
    · refine r_swI (off := 179) (tgt := 211) dL_law_32 rfl c53a c53b (by rw [c53e]; rfl) ?_
      refine r_aload_n rfl dL_law_211 rfl ?_
      obtain ⟨fs82, f81⟩ := hI.o2
      refine cl_L_20 rfl rfl dL_law_212 (by decide) (by decide) f81 (Nat.le_of_ble_eq_true rfl) (k5_clear hS hI hX.1 (by omega)) ?_
      rintro _ h76 _ ⟨rfl, hS77, hI78, hk79, rfl⟩
      have hI86 := hJ.ku hk79
      refine r_pop rfl dL_law_215 rfl ?_
      refine r_aload_n rfl dL_law_216 rfl ?_
      obtain ⟨fs93, f92⟩ := hI86.o5
      refine cl_L_24 rfl rfl dL_law_217 (by decide) (by decide) f92 (Nat.le_of_ble_eq_true rfl) (j5_clear hS77 hI86) ?_
      rintro _ h87 _ ⟨rfl, hS88, hI89, hk90, rfl⟩
      have hI97 := hI78.kd (by omega) hk90
      have hX94 := TXR_0 f g
      refine r_pop rfl dL_law_220 rfl ?_
      refine r_goto (pc' := 784) rfl dL_law_221 ?_
      refine r_iinc (y := nI (4 * j + 4)) (ls' := [some (.ref 0), some (.ref 2), some (.ref 420), some (.int (nI (4 * j + 4)))]) rfl dL_law_784 rfl (show nI (4 * j) + Int32.ofInt 4 = nI (4 * j + 4) from nI_add (4 * j) 4) (Nat.le_of_ble_eq_true rfl) rfl ?_
      refine r_goto (pc' := 18) rfl dL_law_787 ?_
      rw [show 4 * j + 4 = 4 * (j + 1) by omega]
      exact ih h87 _ _ _ _ _ _ _ _ _ hS88 hI97 hI89 hX94 hc hm
    · refine r_swI (off := 192) (tgt := 224) dL_law_32 rfl c53a c53b (by rw [c53e]; rfl) ?_
      refine r_aload_n rfl dL_law_224 rfl ?_
      obtain ⟨fs104, f103⟩ := hI.o2
      refine cl_L_25 rfl rfl dL_law_225 (by decide) (by decide) f103 (Nat.le_of_ble_eq_true rfl) (k5_clauses hS hI hX hc hm) ?_
      rintro _ h98 _ ⟨rfl, hS99, hk101, rfl, hI100⟩
      have hI108 := hJ.ku hk101
      refine r_pop rfl dL_law_228 rfl ?_
      refine r_aload_n rfl dL_law_229 rfl ?_
      obtain ⟨fs115, f114⟩ := hI108.o5
      refine cl_L_28 rfl rfl dL_law_230 (by decide) (by decide) f114 (Nat.le_of_ble_eq_true rfl) (j5_clauses hS99 hI108 hX) ?_
      rintro _ h109 _ ⟨rfl, hS110, hk112, rfl, hI111⟩
      obtain ⟨n1, c1, m1, t1, wr1, G1, hI119, hI111b, hX116, hc117, hm118⟩ := cb_clauses hX hc hm hk112 hI100 hI111
      refine r_pop rfl dL_law_233 rfl ?_
      refine r_goto (pc' := 784) rfl dL_law_234 ?_
      refine r_iinc (y := nI (4 * j + 4)) (ls' := [some (.ref 0), some (.ref 2), some (.ref 420), some (.int (nI (4 * j + 4)))]) rfl dL_law_784 rfl (show nI (4 * j) + Int32.ofInt 4 = nI (4 * j + 4) from nI_add (4 * j) 4) (Nat.le_of_ble_eq_true rfl) rfl ?_
      refine r_goto (pc' := 18) rfl dL_law_787 ?_
      rw [show 4 * j + 4 = 4 * (j + 1) by omega]
      exact ih h109 _ _ _ _ _ _ _ _ _ hS110 hI119 hI111b hX116 hc117 hm118
    · refine r_swI (off := 205) (tgt := 237) dL_law_32 rfl c53a c53b (by rw [c53e]; rfl) ?_
      refine r_aload_n rfl dL_law_237 rfl ?_
      obtain ⟨fs126, f125⟩ := hI.o2
      refine cl_L_29 rfl rfl dL_law_238 (by decide) (by decide) f125 (Nat.le_of_ble_eq_true rfl) (k5_proof hS hI hX hc hm) ?_
      rintro _ h120 _ ⟨rfl, hS121, hk123, rfl, hI122⟩
      have hI130 := hJ.ku hk123
      refine r_pop rfl dL_law_241 rfl ?_
      refine r_aload_n rfl dL_law_242 rfl ?_
      obtain ⟨fs137, f136⟩ := hI130.o5
      refine cl_L_32 rfl rfl dL_law_243 (by decide) (by decide) f136 (Nat.le_of_ble_eq_true rfl) (j5_proof hS121 hI130 hX hc) ?_
      rintro _ h131 _ ⟨rfl, hS132, hk134, rfl, hI133⟩
      obtain ⟨n1, c1, m1, t1, wr1, G1, hI141, hI133b, hX138, hc139, hm140⟩ := cb_proof hX hc hm hk134 hI122 hI133
      refine r_pop rfl dL_law_246 rfl ?_
      refine r_goto (pc' := 784) rfl dL_law_247 ?_
      refine r_iinc (y := nI (4 * j + 4)) (ls' := [some (.ref 0), some (.ref 2), some (.ref 420), some (.int (nI (4 * j + 4)))]) rfl dL_law_784 rfl (show nI (4 * j) + Int32.ofInt 4 = nI (4 * j + 4) from nI_add (4 * j) 4) (Nat.le_of_ble_eq_true rfl) rfl ?_
      refine r_goto (pc' := 18) rfl dL_law_787 ?_
      rw [show 4 * j + 4 = 4 * (j + 1) by omega]
      exact ih h131 _ _ _ _ _ _ _ _ _ hS132 hI141 hI133b hX138 hc139 hm140
    · refine r_swI (off := 218) (tgt := 250) dL_law_32 rfl c53a c53b (by rw [c53e]; rfl) ?_
      refine r_aload_n rfl dL_law_250 rfl ?_
      obtain ⟨fs148, f147⟩ := hI.o2
      refine cl_L_33 rfl rfl dL_law_251 (by decide) (by decide) f147 (Nat.le_of_ble_eq_true rfl) (k5_wrong hS hI hc hm) ?_
      rintro _ h142 _ ⟨rfl, hS143, hI144, hk145, rfl⟩
      have hI152 := hJ.ku hk145
      refine r_pop rfl dL_law_254 rfl ?_
      refine r_aload_n rfl dL_law_255 rfl ?_
      obtain ⟨fs159, f158⟩ := hI152.o5
      refine cl_L_36 rfl rfl dL_law_256 (by decide) (by decide) f158 (Nat.le_of_ble_eq_true rfl) (j5_wrong hS143 hI152 hc hm) ?_
      rintro _ h153 _ ⟨rfl, hS154, hI155, hk156, rfl⟩
      have hI163 := hI144.kd (by omega) hk156
      refine r_pop rfl dL_law_259 rfl ?_
      refine r_goto (pc' := 784) rfl dL_law_260 ?_
      refine r_iinc (y := nI (4 * j + 4)) (ls' := [some (.ref 0), some (.ref 2), some (.ref 420), some (.int (nI (4 * j + 4)))]) rfl dL_law_784 rfl (show nI (4 * j) + Int32.ofInt 4 = nI (4 * j + 4) from nI_add (4 * j) 4) (Nat.le_of_ble_eq_true rfl) rfl ?_
      refine r_goto (pc' := 18) rfl dL_law_787 ?_
      rw [show 4 * j + 4 = 4 * (j + 1) by omega]
      exact ih h153 _ _ _ _ _ _ _ _ _ hS154 hI163 hI155 hX hc hm
    · refine r_swI (off := 231) (tgt := 263) dL_law_32 rfl c53a c53b (by rw [c53e]; rfl) ?_
      refine r_aload_n rfl dL_law_263 rfl ?_
      obtain ⟨fs170, f169⟩ := hI.o2
      refine cl_L_37 rfl rfl dL_law_264 (by decide) (by decide) f169 (Nat.le_of_ble_eq_true rfl) (k5_end hS hI hc hm) ?_
      rintro _ h164 _ ⟨rfl, hS165, hI166, hk167, rfl⟩
      have hI174 := hJ.ku hk167
      refine r_pop rfl dL_law_267 rfl ?_
      refine r_aload_n rfl dL_law_268 rfl ?_
      obtain ⟨fs181, f180⟩ := hI174.o5
      refine cl_L_40 rfl rfl dL_law_269 (by decide) (by decide) f180 (Nat.le_of_ble_eq_true rfl) (j5_end hS165 hI174 hc hm) ?_
      rintro _ h175 _ ⟨rfl, hS176, hI177, hk178, rfl⟩
      have hI185 := hI166.kd (by omega) hk178
      refine r_pop rfl dL_law_272 rfl ?_
      refine r_goto (pc' := 784) rfl dL_law_273 ?_
      refine r_iinc (y := nI (4 * j + 4)) (ls' := [some (.ref 0), some (.ref 2), some (.ref 420), some (.int (nI (4 * j + 4)))]) rfl dL_law_784 rfl (show nI (4 * j) + Int32.ofInt 4 = nI (4 * j + 4) from nI_add (4 * j) 4) (Nat.le_of_ble_eq_true rfl) rfl ?_
      refine r_goto (pc' := 18) rfl dL_law_787 ?_
      rw [show 4 * j + 4 = 4 * (j + 1) by omega]
      exact ih h175 _ _ _ _ _ _ _ _ _ hS176 hI185 hI177 hX hc hm
    · refine r_swI (off := 244) (tgt := 276) dL_law_32 rfl c53a c53b (by rw [c53e]; rfl) ?_
      refine r_aload_n rfl dL_law_276 rfl ?_
      refine r_aload_n rfl dL_law_277 rfl ?_
      refine r_iload_n rfl dL_law_278 rfl ?_
      refine r_iconst (v := 1) rfl dL_law_279 (by decide) ?_
      refine r_iadd rfl dL_law_280 ?_
      refine r_eqi (y := nI ((4 * j) + 1)) (show (nI (4 * j)) + 1 = nI ((4 * j) + 1) from nI_add (4 * j) 1) ?_
      refine r_sld (jn := (4 * j) + 1) rfl dL_law_281 (vp_in_nI (n := (4 * j) + 1) (by omega) (by omega)) (nI_clamp (n := (4 * j) + 1) (by omega)) ?_
      refine r_aload_n rfl dL_law_282 rfl ?_
      refine r_iload_n rfl dL_law_283 rfl ?_
      refine r_iconst (v := 2) rfl dL_law_284 (by decide) ?_
      refine r_iadd rfl dL_law_285 ?_
      refine r_eqi (y := nI ((4 * j) + 2)) (show (nI (4 * j)) + 2 = nI ((4 * j) + 2) from nI_add (4 * j) 2) ?_
      refine r_sld (jn := (4 * j) + 2) rfl dL_law_286 (vp_in_nI (n := (4 * j) + 2) (by omega) (by omega)) (nI_clamp (n := (4 * j) + 2) (by omega)) ?_
      obtain ⟨fs192, f191⟩ := hI.o2
      refine cl_L_41 rfl rfl dL_law_287 (by decide) (by decide) f191 (Nat.le_of_ble_eq_true rfl) (k5_line hS hI hc hm) ?_
      rintro _ h186 _ ⟨rfl, hS187, hI188, hk189, rfl⟩
      have hI196 := hJ.ku hk189
      refine r_pop rfl dL_law_290 rfl ?_
      refine r_aload_n rfl dL_law_291 rfl ?_
      refine r_aload_n rfl dL_law_292 rfl ?_
      refine r_iload_n rfl dL_law_293 rfl ?_
      refine r_iconst (v := 1) rfl dL_law_294 (by decide) ?_
      refine r_iadd rfl dL_law_295 ?_
      refine r_eqi (y := nI ((4 * j) + 1)) (show (nI (4 * j)) + 1 = nI ((4 * j) + 1) from nI_add (4 * j) 1) ?_
      refine r_sld (jn := (4 * j) + 1) rfl dL_law_296 (vp_in_nI (n := (4 * j) + 1) (by omega) (by omega)) (nI_clamp (n := (4 * j) + 1) (by omega)) ?_
      refine r_aload_n rfl dL_law_297 rfl ?_
      refine r_iload_n rfl dL_law_298 rfl ?_
      refine r_iconst (v := 2) rfl dL_law_299 (by decide) ?_
      refine r_iadd rfl dL_law_300 ?_
      refine r_eqi (y := nI ((4 * j) + 2)) (show (nI (4 * j)) + 2 = nI ((4 * j) + 2) from nI_add (4 * j) 2) ?_
      refine r_sld (jn := (4 * j) + 2) rfl dL_law_301 (vp_in_nI (n := (4 * j) + 2) (by omega) (by omega)) (nI_clamp (n := (4 * j) + 2) (by omega)) ?_
      obtain ⟨fs203, f202⟩ := hI196.o5
      refine cl_L_45 rfl rfl dL_law_302 (by decide) (by decide) f202 (Nat.le_of_ble_eq_true rfl) (j5_line hS187 hI196 hc hm) ?_
      rintro _ h197 _ ⟨rfl, hS198, hI199, hk200, rfl⟩
      have hI207 := hI188.kd (by omega) hk200
      refine r_pop rfl dL_law_305 rfl ?_
      refine r_goto (pc' := 784) rfl dL_law_306 ?_
      refine r_iinc (y := nI (4 * j + 4)) (ls' := [some (.ref 0), some (.ref 2), some (.ref 420), some (.int (nI (4 * j + 4)))]) rfl dL_law_784 rfl (show nI (4 * j) + Int32.ofInt 4 = nI (4 * j + 4) from nI_add (4 * j) 4) (Nat.le_of_ble_eq_true rfl) rfl ?_
      refine r_goto (pc' := 18) rfl dL_law_787 ?_
      rw [show 4 * j + 4 = 4 * (j + 1) by omega]
      exact ih h197 _ _ _ _ _ _ _ _ _ hS198 hI207 hI199 hX hc hm
    · refine r_swI (off := 277) (tgt := 309) dL_law_32 rfl c53a c53b (by rw [c53e]; rfl) ?_
      refine r_aload_n rfl dL_law_309 rfl ?_
      refine r_aload_n rfl dL_law_310 rfl ?_
      refine r_iload_n rfl dL_law_311 rfl ?_
      refine r_iconst (v := 1) rfl dL_law_312 (by decide) ?_
      refine r_iadd rfl dL_law_313 ?_
      refine r_eqi (y := nI ((4 * j) + 1)) (show (nI (4 * j)) + 1 = nI ((4 * j) + 1) from nI_add (4 * j) 1) ?_
      refine r_sld (jn := (4 * j) + 1) rfl dL_law_314 (vp_in_nI (n := (4 * j) + 1) (by omega) (by omega)) (nI_clamp (n := (4 * j) + 1) (by omega)) ?_
      obtain ⟨fs214, f213⟩ := hI.o2
      refine cl_L_46 rfl rfl dL_law_315 (by decide) (by decide) f213 (Nat.le_of_ble_eq_true rfl) (k5_side hS hI hc hm) ?_
      rintro _ h208 _ ⟨rfl, hS209, hI210, hk211, x212, rfl⟩
      have hI218 := hJ.ku hk211
      refine r_pop rfl dL_law_318 rfl ?_
      refine r_aload_n rfl dL_law_319 rfl ?_
      refine r_aload_n rfl dL_law_320 rfl ?_
      refine r_iload_n rfl dL_law_321 rfl ?_
      refine r_iconst (v := 1) rfl dL_law_322 (by decide) ?_
      refine r_iadd rfl dL_law_323 ?_
      refine r_eqi (y := nI ((4 * j) + 1)) (show (nI (4 * j)) + 1 = nI ((4 * j) + 1) from nI_add (4 * j) 1) ?_
      refine r_sld (jn := (4 * j) + 1) rfl dL_law_324 (vp_in_nI (n := (4 * j) + 1) (by omega) (by omega)) (nI_clamp (n := (4 * j) + 1) (by omega)) ?_
      obtain ⟨fs225, f224⟩ := hI218.o5
      refine cl_L_50 rfl rfl dL_law_325 (by decide) (by decide) f224 (Nat.le_of_ble_eq_true rfl) (j5_side hS209 hI218 hc hm) ?_
      rintro _ h219 _ ⟨rfl, hS220, hI221, hk222, x223, rfl⟩
      have hI229 := hI210.kd (by omega) hk222
      refine r_pop rfl dL_law_328 rfl ?_
      refine r_goto (pc' := 784) rfl dL_law_329 ?_
      refine r_iinc (y := nI (4 * j + 4)) (ls' := [some (.ref 0), some (.ref 2), some (.ref 420), some (.int (nI (4 * j + 4)))]) rfl dL_law_784 rfl (show nI (4 * j) + Int32.ofInt 4 = nI (4 * j + 4) from nI_add (4 * j) 4) (Nat.le_of_ble_eq_true rfl) rfl ?_
      refine r_goto (pc' := 18) rfl dL_law_787 ?_
      rw [show 4 * j + 4 = 4 * (j + 1) by omega]
      exact ih h219 _ _ _ _ _ _ _ _ _ hS220 hI229 hI221 hX hc hm
    · refine r_swI (off := 300) (tgt := 332) dL_law_32 rfl c53a c53b (by rw [c53e]; rfl) ?_
      refine r_aload_n rfl dL_law_332 rfl ?_
      refine r_aload_n rfl dL_law_333 rfl ?_
      refine r_iload_n rfl dL_law_334 rfl ?_
      refine r_iconst (v := 1) rfl dL_law_335 (by decide) ?_
      refine r_iadd rfl dL_law_336 ?_
      refine r_eqi (y := nI ((4 * j) + 1)) (show (nI (4 * j)) + 1 = nI ((4 * j) + 1) from nI_add (4 * j) 1) ?_
      refine r_sld (jn := (4 * j) + 1) rfl dL_law_337 (vp_in_nI (n := (4 * j) + 1) (by omega) (by omega)) (nI_clamp (n := (4 * j) + 1) (by omega)) ?_
      refine r_aload_n rfl dL_law_338 rfl ?_
      refine r_iload_n rfl dL_law_339 rfl ?_
      refine r_iconst (v := 2) rfl dL_law_340 (by decide) ?_
      refine r_iadd rfl dL_law_341 ?_
      refine r_eqi (y := nI ((4 * j) + 2)) (show (nI (4 * j)) + 2 = nI ((4 * j) + 2) from nI_add (4 * j) 2) ?_
      refine r_sld (jn := (4 * j) + 2) rfl dL_law_342 (vp_in_nI (n := (4 * j) + 2) (by omega) (by omega)) (nI_clamp (n := (4 * j) + 2) (by omega)) ?_
      obtain ⟨fs236, f235⟩ := hI.o2
      refine cl_L_51 rfl rfl dL_law_343 (by decide) (by decide) f235 (Nat.le_of_ble_eq_true rfl) (k5_holds hS hI hc hm) ?_
      rintro _ h230 _ ⟨rfl, hS231, hI232, hk233, x234, rfl⟩
      have hI240 := hJ.ku hk233
      refine r_pop rfl dL_law_346 rfl ?_
      refine r_aload_n rfl dL_law_347 rfl ?_
      refine r_aload_n rfl dL_law_348 rfl ?_
      refine r_iload_n rfl dL_law_349 rfl ?_
      refine r_iconst (v := 1) rfl dL_law_350 (by decide) ?_
      refine r_iadd rfl dL_law_351 ?_
      refine r_eqi (y := nI ((4 * j) + 1)) (show (nI (4 * j)) + 1 = nI ((4 * j) + 1) from nI_add (4 * j) 1) ?_
      refine r_sld (jn := (4 * j) + 1) rfl dL_law_352 (vp_in_nI (n := (4 * j) + 1) (by omega) (by omega)) (nI_clamp (n := (4 * j) + 1) (by omega)) ?_
      refine r_aload_n rfl dL_law_353 rfl ?_
      refine r_iload_n rfl dL_law_354 rfl ?_
      refine r_iconst (v := 2) rfl dL_law_355 (by decide) ?_
      refine r_iadd rfl dL_law_356 ?_
      refine r_eqi (y := nI ((4 * j) + 2)) (show (nI (4 * j)) + 2 = nI ((4 * j) + 2) from nI_add (4 * j) 2) ?_
      refine r_sld (jn := (4 * j) + 2) rfl dL_law_357 (vp_in_nI (n := (4 * j) + 2) (by omega) (by omega)) (nI_clamp (n := (4 * j) + 2) (by omega)) ?_
      obtain ⟨fs247, f246⟩ := hI240.o5
      refine cl_L_54 rfl rfl dL_law_358 (by decide) (by decide) f246 (Nat.le_of_ble_eq_true rfl) (j5_holds hS231 hI240 hc hm) ?_
      rintro _ h241 _ ⟨rfl, hS242, hI243, hk244, x245, rfl⟩
      have hI251 := hI232.kd (by omega) hk244
      refine r_pop rfl dL_law_361 rfl ?_
      refine r_goto (pc' := 784) rfl dL_law_362 ?_
      refine r_iinc (y := nI (4 * j + 4)) (ls' := [some (.ref 0), some (.ref 2), some (.ref 420), some (.int (nI (4 * j + 4)))]) rfl dL_law_784 rfl (show nI (4 * j) + Int32.ofInt 4 = nI (4 * j + 4) from nI_add (4 * j) 4) (Nat.le_of_ble_eq_true rfl) rfl ?_
      refine r_goto (pc' := 18) rfl dL_law_787 ?_
      rw [show 4 * j + 4 = 4 * (j + 1) by omega]
      exact ih h241 _ _ _ _ _ _ _ _ _ hS242 hI251 hI243 hX hc hm
    · refine r_swI (off := 333) (tgt := 365) dL_law_32 rfl c53a c53b (by rw [c53e]; rfl) ?_
      refine r_aload_n rfl dL_law_365 rfl ?_
      refine r_aload_n rfl dL_law_366 rfl ?_
      refine r_iload_n rfl dL_law_367 rfl ?_
      refine r_iconst (v := 1) rfl dL_law_368 (by decide) ?_
      refine r_iadd rfl dL_law_369 ?_
      refine r_eqi (y := nI ((4 * j) + 1)) (show (nI (4 * j)) + 1 = nI ((4 * j) + 1) from nI_add (4 * j) 1) ?_
      refine r_sld (jn := (4 * j) + 1) rfl dL_law_370 (vp_in_nI (n := (4 * j) + 1) (by omega) (by omega)) (nI_clamp (n := (4 * j) + 1) (by omega)) ?_
      obtain ⟨fs258, f257⟩ := hI.o2
      refine cl_L_55 rfl rfl dL_law_371 (by decide) (by decide) f257 (Nat.le_of_ble_eq_true rfl) (k5_worlds hS hI hc hm) ?_
      rintro _ h252 _ ⟨rfl, hS253, hI254, hk255, x256, rfl⟩
      have hI262 := hJ.ku hk255
      refine r_pop rfl dL_law_374 rfl ?_
      refine r_aload_n rfl dL_law_375 rfl ?_
      refine r_aload_n rfl dL_law_376 rfl ?_
      refine r_iload_n rfl dL_law_377 rfl ?_
      refine r_iconst (v := 1) rfl dL_law_378 (by decide) ?_
      refine r_iadd rfl dL_law_379 ?_
      refine r_eqi (y := nI ((4 * j) + 1)) (show (nI (4 * j)) + 1 = nI ((4 * j) + 1) from nI_add (4 * j) 1) ?_
      refine r_sld (jn := (4 * j) + 1) rfl dL_law_380 (vp_in_nI (n := (4 * j) + 1) (by omega) (by omega)) (nI_clamp (n := (4 * j) + 1) (by omega)) ?_
      obtain ⟨fs269, f268⟩ := hI262.o5
      refine cl_L_58 rfl rfl dL_law_381 (by decide) (by decide) f268 (Nat.le_of_ble_eq_true rfl) (j5_worlds hS253 hI262 hc hm) ?_
      rintro _ h263 _ ⟨rfl, hS264, hI265, hk266, x267, rfl⟩
      have hI273 := hI254.kd (by omega) hk266
      refine r_pop rfl dL_law_384 rfl ?_
      refine r_goto (pc' := 784) rfl dL_law_385 ?_
      refine r_iinc (y := nI (4 * j + 4)) (ls' := [some (.ref 0), some (.ref 2), some (.ref 420), some (.int (nI (4 * j + 4)))]) rfl dL_law_784 rfl (show nI (4 * j) + Int32.ofInt 4 = nI (4 * j + 4) from nI_add (4 * j) 4) (Nat.le_of_ble_eq_true rfl) rfl ?_
      refine r_goto (pc' := 18) rfl dL_law_787 ?_
      rw [show 4 * j + 4 = 4 * (j + 1) by omega]
      exact ih h263 _ _ _ _ _ _ _ _ _ hS264 hI273 hI265 hX hc hm
    · refine r_swI (off := 356) (tgt := 388) dL_law_32 rfl c53a c53b (by rw [c53e]; rfl) ?_
      refine r_aload_n rfl dL_law_388 rfl ?_
      refine r_aload_n rfl dL_law_389 rfl ?_
      refine r_iload_n rfl dL_law_390 rfl ?_
      refine r_iconst (v := 1) rfl dL_law_391 (by decide) ?_
      refine r_iadd rfl dL_law_392 ?_
      refine r_eqi (y := nI ((4 * j) + 1)) (show (nI (4 * j)) + 1 = nI ((4 * j) + 1) from nI_add (4 * j) 1) ?_
      refine r_sld (jn := (4 * j) + 1) rfl dL_law_393 (vp_in_nI (n := (4 * j) + 1) (by omega) (by omega)) (nI_clamp (n := (4 * j) + 1) (by omega)) ?_
      refine r_aload_n rfl dL_law_394 rfl ?_
      refine r_iload_n rfl dL_law_395 rfl ?_
      refine r_iconst (v := 2) rfl dL_law_396 (by decide) ?_
      refine r_iadd rfl dL_law_397 ?_
      refine r_eqi (y := nI ((4 * j) + 2)) (show (nI (4 * j)) + 2 = nI ((4 * j) + 2) from nI_add (4 * j) 2) ?_
      refine r_sld (jn := (4 * j) + 2) rfl dL_law_398 (vp_in_nI (n := (4 * j) + 2) (by omega) (by omega)) (nI_clamp (n := (4 * j) + 2) (by omega)) ?_
      refine r_aload_n rfl dL_law_399 rfl ?_
      refine r_iload_n rfl dL_law_400 rfl ?_
      refine r_iconst (v := 3) rfl dL_law_401 (by decide) ?_
      refine r_iadd rfl dL_law_402 ?_
      refine r_eqi (y := nI ((4 * j) + 3)) (show (nI (4 * j)) + 3 = nI ((4 * j) + 3) from nI_add (4 * j) 3) ?_
      refine r_sld (jn := (4 * j) + 3) rfl dL_law_403 (vp_in_nI (n := (4 * j) + 3) (by omega) (by omega)) (nI_clamp (n := (4 * j) + 3) (by omega)) ?_
      obtain ⟨fs280, f279⟩ := hI.o2
      refine cl_L_59 rfl rfl dL_law_404 (by decide) (by decide) f279 (Nat.le_of_ble_eq_true rfl) (k5_says hS hI hc hm) ?_
      rintro _ h274 _ ⟨rfl, hS275, hI276, hk277, x278, rfl⟩
      have hI284 := hJ.ku hk277
      refine r_pop rfl dL_law_407 rfl ?_
      refine r_aload_n rfl dL_law_408 rfl ?_
      refine r_aload_n rfl dL_law_409 rfl ?_
      refine r_iload_n rfl dL_law_410 rfl ?_
      refine r_iconst (v := 1) rfl dL_law_411 (by decide) ?_
      refine r_iadd rfl dL_law_412 ?_
      refine r_eqi (y := nI ((4 * j) + 1)) (show (nI (4 * j)) + 1 = nI ((4 * j) + 1) from nI_add (4 * j) 1) ?_
      refine r_sld (jn := (4 * j) + 1) rfl dL_law_413 (vp_in_nI (n := (4 * j) + 1) (by omega) (by omega)) (nI_clamp (n := (4 * j) + 1) (by omega)) ?_
      refine r_aload_n rfl dL_law_414 rfl ?_
      refine r_iload_n rfl dL_law_415 rfl ?_
      refine r_iconst (v := 2) rfl dL_law_416 (by decide) ?_
      refine r_iadd rfl dL_law_417 ?_
      refine r_eqi (y := nI ((4 * j) + 2)) (show (nI (4 * j)) + 2 = nI ((4 * j) + 2) from nI_add (4 * j) 2) ?_
      refine r_sld (jn := (4 * j) + 2) rfl dL_law_418 (vp_in_nI (n := (4 * j) + 2) (by omega) (by omega)) (nI_clamp (n := (4 * j) + 2) (by omega)) ?_
      refine r_aload_n rfl dL_law_419 rfl ?_
      refine r_iload_n rfl dL_law_420 rfl ?_
      refine r_iconst (v := 3) rfl dL_law_421 (by decide) ?_
      refine r_iadd rfl dL_law_422 ?_
      refine r_eqi (y := nI ((4 * j) + 3)) (show (nI (4 * j)) + 3 = nI ((4 * j) + 3) from nI_add (4 * j) 3) ?_
      refine r_sld (jn := (4 * j) + 3) rfl dL_law_423 (vp_in_nI (n := (4 * j) + 3) (by omega) (by omega)) (nI_clamp (n := (4 * j) + 3) (by omega)) ?_
      obtain ⟨fs291, f290⟩ := hI284.o5
      refine cl_L_63 rfl rfl dL_law_424 (by decide) (by decide) f290 (Nat.le_of_ble_eq_true rfl) (j5_says hS275 hI284 hc hm) ?_
      rintro _ h285 _ ⟨rfl, hS286, hI287, hk288, x289, rfl⟩
      have hI295 := hI276.kd (by omega) hk288
      refine r_pop rfl dL_law_427 rfl ?_
      refine r_goto (pc' := 784) rfl dL_law_428 ?_
      refine r_iinc (y := nI (4 * j + 4)) (ls' := [some (.ref 0), some (.ref 2), some (.ref 420), some (.int (nI (4 * j + 4)))]) rfl dL_law_784 rfl (show nI (4 * j) + Int32.ofInt 4 = nI (4 * j + 4) from nI_add (4 * j) 4) (Nat.le_of_ble_eq_true rfl) rfl ?_
      refine r_goto (pc' := 18) rfl dL_law_787 ?_
      rw [show 4 * j + 4 = 4 * (j + 1) by omega]
      exact ih h285 _ _ _ _ _ _ _ _ _ hS286 hI295 hI287 hX hc hm
    · refine r_swI (off := 399) (tgt := 431) dL_law_32 rfl c53a c53b (by rw [c53e]; rfl) ?_
      refine r_aload_n rfl dL_law_431 rfl ?_
      refine r_aload_n rfl dL_law_432 rfl ?_
      refine r_iload_n rfl dL_law_433 rfl ?_
      refine r_iconst (v := 1) rfl dL_law_434 (by decide) ?_
      refine r_iadd rfl dL_law_435 ?_
      refine r_eqi (y := nI ((4 * j) + 1)) (show (nI (4 * j)) + 1 = nI ((4 * j) + 1) from nI_add (4 * j) 1) ?_
      refine r_sld (jn := (4 * j) + 1) rfl dL_law_436 (vp_in_nI (n := (4 * j) + 1) (by omega) (by omega)) (nI_clamp (n := (4 * j) + 1) (by omega)) ?_
      refine r_aload_n rfl dL_law_437 rfl ?_
      refine r_iload_n rfl dL_law_438 rfl ?_
      refine r_iconst (v := 2) rfl dL_law_439 (by decide) ?_
      refine r_iadd rfl dL_law_440 ?_
      refine r_eqi (y := nI ((4 * j) + 2)) (show (nI (4 * j)) + 2 = nI ((4 * j) + 2) from nI_add (4 * j) 2) ?_
      refine r_sld (jn := (4 * j) + 2) rfl dL_law_441 (vp_in_nI (n := (4 * j) + 2) (by omega) (by omega)) (nI_clamp (n := (4 * j) + 2) (by omega)) ?_
      obtain ⟨fs302, f301⟩ := hI.o2
      refine cl_L_64 rfl rfl dL_law_442 (by decide) (by decide) f301 (Nat.le_of_ble_eq_true rfl) (k5_saying hS hI hc hm) ?_
      rintro _ h296 _ ⟨rfl, hS297, hI298, hk299, x300, rfl⟩
      have hI306 := hJ.ku hk299
      refine r_pop2 rfl dL_law_445 rfl ?_
      refine r_aload_n rfl dL_law_446 rfl ?_
      refine r_aload_n rfl dL_law_447 rfl ?_
      refine r_iload_n rfl dL_law_448 rfl ?_
      refine r_iconst (v := 1) rfl dL_law_449 (by decide) ?_
      refine r_iadd rfl dL_law_450 ?_
      refine r_eqi (y := nI ((4 * j) + 1)) (show (nI (4 * j)) + 1 = nI ((4 * j) + 1) from nI_add (4 * j) 1) ?_
      refine r_sld (jn := (4 * j) + 1) rfl dL_law_451 (vp_in_nI (n := (4 * j) + 1) (by omega) (by omega)) (nI_clamp (n := (4 * j) + 1) (by omega)) ?_
      refine r_aload_n rfl dL_law_452 rfl ?_
      refine r_iload_n rfl dL_law_453 rfl ?_
      refine r_iconst (v := 2) rfl dL_law_454 (by decide) ?_
      refine r_iadd rfl dL_law_455 ?_
      refine r_eqi (y := nI ((4 * j) + 2)) (show (nI (4 * j)) + 2 = nI ((4 * j) + 2) from nI_add (4 * j) 2) ?_
      refine r_sld (jn := (4 * j) + 2) rfl dL_law_456 (vp_in_nI (n := (4 * j) + 2) (by omega) (by omega)) (nI_clamp (n := (4 * j) + 2) (by omega)) ?_
      obtain ⟨fs313, f312⟩ := hI306.o5
      refine cl_L_68 rfl rfl dL_law_457 (by decide) (by decide) f312 (Nat.le_of_ble_eq_true rfl) (j5_saying hS297 hI306 hc hm) ?_
      rintro _ h307 _ ⟨rfl, hS308, hI309, hk310, x311, rfl⟩
      have hI317 := hI298.kd (by omega) hk310
      refine r_pop2 rfl dL_law_460 rfl ?_
      refine r_goto (pc' := 784) rfl dL_law_461 ?_
      refine r_iinc (y := nI (4 * j + 4)) (ls' := [some (.ref 0), some (.ref 2), some (.ref 420), some (.int (nI (4 * j + 4)))]) rfl dL_law_784 rfl (show nI (4 * j) + Int32.ofInt 4 = nI (4 * j + 4) from nI_add (4 * j) 4) (Nat.le_of_ble_eq_true rfl) rfl ?_
      refine r_goto (pc' := 18) rfl dL_law_787 ?_
      rw [show 4 * j + 4 = 4 * (j + 1) by omega]
      exact ih h307 _ _ _ _ _ _ _ _ _ hS308 hI317 hI309 hX hc hm
    · refine r_swI (off := 432) (tgt := 464) dL_law_32 rfl c53a c53b (by rw [c53e]; rfl) ?_
      refine r_aload_n rfl dL_law_464 rfl ?_
      refine r_aload_n rfl dL_law_465 rfl ?_
      refine r_iload_n rfl dL_law_466 rfl ?_
      refine r_iconst (v := 1) rfl dL_law_467 (by decide) ?_
      refine r_iadd rfl dL_law_468 ?_
      refine r_eqi (y := nI ((4 * j) + 1)) (show (nI (4 * j)) + 1 = nI ((4 * j) + 1) from nI_add (4 * j) 1) ?_
      refine r_sld (jn := (4 * j) + 1) rfl dL_law_469 (vp_in_nI (n := (4 * j) + 1) (by omega) (by omega)) (nI_clamp (n := (4 * j) + 1) (by omega)) ?_
      obtain ⟨fs324, f323⟩ := hI.o2
      refine cl_L_69 rfl rfl dL_law_470 (by decide) (by decide) f323 (Nat.le_of_ble_eq_true rfl) (k5_between hS hI hc hm) ?_
      rintro _ h318 _ ⟨rfl, hS319, hI320, hk321, x322, rfl⟩
      have hI328 := hJ.ku hk321
      refine r_pop rfl dL_law_473 rfl ?_
      refine r_aload_n rfl dL_law_474 rfl ?_
      refine r_aload_n rfl dL_law_475 rfl ?_
      refine r_iload_n rfl dL_law_476 rfl ?_
      refine r_iconst (v := 1) rfl dL_law_477 (by decide) ?_
      refine r_iadd rfl dL_law_478 ?_
      refine r_eqi (y := nI ((4 * j) + 1)) (show (nI (4 * j)) + 1 = nI ((4 * j) + 1) from nI_add (4 * j) 1) ?_
      refine r_sld (jn := (4 * j) + 1) rfl dL_law_479 (vp_in_nI (n := (4 * j) + 1) (by omega) (by omega)) (nI_clamp (n := (4 * j) + 1) (by omega)) ?_
      obtain ⟨fs335, f334⟩ := hI328.o5
      refine cl_L_72 rfl rfl dL_law_480 (by decide) (by decide) f334 (Nat.le_of_ble_eq_true rfl) (j5_between hS319 hI328 hc hm) ?_
      rintro _ h329 _ ⟨rfl, hS330, hI331, hk332, x333, rfl⟩
      have hI339 := hI320.kd (by omega) hk332
      refine r_pop rfl dL_law_483 rfl ?_
      refine r_goto (pc' := 784) rfl dL_law_484 ?_
      refine r_iinc (y := nI (4 * j + 4)) (ls' := [some (.ref 0), some (.ref 2), some (.ref 420), some (.int (nI (4 * j + 4)))]) rfl dL_law_784 rfl (show nI (4 * j) + Int32.ofInt 4 = nI (4 * j + 4) from nI_add (4 * j) 4) (Nat.le_of_ble_eq_true rfl) rfl ?_
      refine r_goto (pc' := 18) rfl dL_law_787 ?_
      rw [show 4 * j + 4 = 4 * (j + 1) by omega]
      exact ih h329 _ _ _ _ _ _ _ _ _ hS330 hI339 hI331 hX hc hm
    · refine r_swI (off := 455) (tgt := 487) dL_law_32 rfl c53a c53b (by rw [c53e]; rfl) ?_
      refine r_aload_n rfl dL_law_487 rfl ?_
      refine r_aload_n rfl dL_law_488 rfl ?_
      refine r_iload_n rfl dL_law_489 rfl ?_
      refine r_iconst (v := 1) rfl dL_law_490 (by decide) ?_
      refine r_iadd rfl dL_law_491 ?_
      refine r_eqi (y := nI ((4 * j) + 1)) (show (nI (4 * j)) + 1 = nI ((4 * j) + 1) from nI_add (4 * j) 1) ?_
      refine r_sld (jn := (4 * j) + 1) rfl dL_law_492 (vp_in_nI (n := (4 * j) + 1) (by omega) (by omega)) (nI_clamp (n := (4 * j) + 1) (by omega)) ?_
      obtain ⟨fs346, f345⟩ := hI.o2
      refine cl_L_73 rfl rfl dL_law_493 (by decide) (by decide) f345 (Nat.le_of_ble_eq_true rfl) (k5_looks hS hI hc hm) ?_
      rintro _ h340 _ ⟨rfl, hS341, hI342, hk343, x344, rfl⟩
      have hI350 := hJ.ku hk343
      refine r_pop rfl dL_law_496 rfl ?_
      refine r_aload_n rfl dL_law_497 rfl ?_
      refine r_aload_n rfl dL_law_498 rfl ?_
      refine r_iload_n rfl dL_law_499 rfl ?_
      refine r_iconst (v := 1) rfl dL_law_500 (by decide) ?_
      refine r_iadd rfl dL_law_501 ?_
      refine r_eqi (y := nI ((4 * j) + 1)) (show (nI (4 * j)) + 1 = nI ((4 * j) + 1) from nI_add (4 * j) 1) ?_
      refine r_sld (jn := (4 * j) + 1) rfl dL_law_502 (vp_in_nI (n := (4 * j) + 1) (by omega) (by omega)) (nI_clamp (n := (4 * j) + 1) (by omega)) ?_
      obtain ⟨fs357, f356⟩ := hI350.o5
      refine cl_L_76 rfl rfl dL_law_503 (by decide) (by decide) f356 (Nat.le_of_ble_eq_true rfl) (j5_looks hS341 hI350 hc hm) ?_
      rintro _ h351 _ ⟨rfl, hS352, hI353, hk354, x355, rfl⟩
      have hI361 := hI342.kd (by omega) hk354
      refine r_pop rfl dL_law_506 rfl ?_
      refine r_goto (pc' := 784) rfl dL_law_507 ?_
      refine r_iinc (y := nI (4 * j + 4)) (ls' := [some (.ref 0), some (.ref 2), some (.ref 420), some (.int (nI (4 * j + 4)))]) rfl dL_law_784 rfl (show nI (4 * j) + Int32.ofInt 4 = nI (4 * j + 4) from nI_add (4 * j) 4) (Nat.le_of_ble_eq_true rfl) rfl ?_
      refine r_goto (pc' := 18) rfl dL_law_787 ?_
      rw [show 4 * j + 4 = 4 * (j + 1) by omega]
      exact ih h351 _ _ _ _ _ _ _ _ _ hS352 hI361 hI353 hX hc hm
    · refine r_swI (off := 478) (tgt := 510) dL_law_32 rfl c53a c53b (by rw [c53e]; rfl) ?_
      refine r_aload_n rfl dL_law_510 rfl ?_
      refine r_aload_n rfl dL_law_511 rfl ?_
      refine r_iload_n rfl dL_law_512 rfl ?_
      refine r_iconst (v := 1) rfl dL_law_513 (by decide) ?_
      refine r_iadd rfl dL_law_514 ?_
      refine r_eqi (y := nI ((4 * j) + 1)) (show (nI (4 * j)) + 1 = nI ((4 * j) + 1) from nI_add (4 * j) 1) ?_
      refine r_sld (jn := (4 * j) + 1) rfl dL_law_515 (vp_in_nI (n := (4 * j) + 1) (by omega) (by omega)) (nI_clamp (n := (4 * j) + 1) (by omega)) ?_
      refine r_aload_n rfl dL_law_516 rfl ?_
      refine r_iload_n rfl dL_law_517 rfl ?_
      refine r_iconst (v := 2) rfl dL_law_518 (by decide) ?_
      refine r_iadd rfl dL_law_519 ?_
      refine r_eqi (y := nI ((4 * j) + 2)) (show (nI (4 * j)) + 2 = nI ((4 * j) + 2) from nI_add (4 * j) 2) ?_
      refine r_sld (jn := (4 * j) + 2) rfl dL_law_520 (vp_in_nI (n := (4 * j) + 2) (by omega) (by omega)) (nI_clamp (n := (4 * j) + 2) (by omega)) ?_
      obtain ⟨fs368, f367⟩ := hI.o2
      refine cl_L_77 rfl rfl dL_law_521 (by decide) (by decide) f367 (Nat.le_of_ble_eq_true rfl) (k5_compare hS hI hc hm) ?_
      rintro _ h362 _ ⟨rfl, hS363, hI364, hk365, x366, rfl⟩
      have hI372 := hJ.ku hk365
      refine r_pop rfl dL_law_524 rfl ?_
      refine r_aload_n rfl dL_law_525 rfl ?_
      refine r_aload_n rfl dL_law_526 rfl ?_
      refine r_iload_n rfl dL_law_527 rfl ?_
      refine r_iconst (v := 1) rfl dL_law_528 (by decide) ?_
      refine r_iadd rfl dL_law_529 ?_
      refine r_eqi (y := nI ((4 * j) + 1)) (show (nI (4 * j)) + 1 = nI ((4 * j) + 1) from nI_add (4 * j) 1) ?_
      refine r_sld (jn := (4 * j) + 1) rfl dL_law_530 (vp_in_nI (n := (4 * j) + 1) (by omega) (by omega)) (nI_clamp (n := (4 * j) + 1) (by omega)) ?_
      refine r_aload_n rfl dL_law_531 rfl ?_
      refine r_iload_n rfl dL_law_532 rfl ?_
      refine r_iconst (v := 2) rfl dL_law_533 (by decide) ?_
      refine r_iadd rfl dL_law_534 ?_
      refine r_eqi (y := nI ((4 * j) + 2)) (show (nI (4 * j)) + 2 = nI ((4 * j) + 2) from nI_add (4 * j) 2) ?_
      refine r_sld (jn := (4 * j) + 2) rfl dL_law_535 (vp_in_nI (n := (4 * j) + 2) (by omega) (by omega)) (nI_clamp (n := (4 * j) + 2) (by omega)) ?_
      obtain ⟨fs379, f378⟩ := hI372.o5
      refine cl_L_80 rfl rfl dL_law_536 (by decide) (by decide) f378 (Nat.le_of_ble_eq_true rfl) (j5_compare hS363 hI372 hc hm) ?_
      rintro _ h373 _ ⟨rfl, hS374, hI375, hk376, x377, rfl⟩
      have hI383 := hI364.kd (by omega) hk376
      refine r_pop rfl dL_law_539 rfl ?_
      refine r_goto (pc' := 784) rfl dL_law_540 ?_
      refine r_iinc (y := nI (4 * j + 4)) (ls' := [some (.ref 0), some (.ref 2), some (.ref 420), some (.int (nI (4 * j + 4)))]) rfl dL_law_784 rfl (show nI (4 * j) + Int32.ofInt 4 = nI (4 * j + 4) from nI_add (4 * j) 4) (Nat.le_of_ble_eq_true rfl) rfl ?_
      refine r_goto (pc' := 18) rfl dL_law_787 ?_
      rw [show 4 * j + 4 = 4 * (j + 1) by omega]
      exact ih h373 _ _ _ _ _ _ _ _ _ hS374 hI383 hI375 hX hc hm
    · refine r_swI (off := 511) (tgt := 543) dL_law_32 rfl c53a c53b (by rw [c53e]; rfl) ?_
      refine r_aload_n rfl dL_law_543 rfl ?_
      refine r_aload_n rfl dL_law_544 rfl ?_
      refine r_iload_n rfl dL_law_545 rfl ?_
      refine r_iconst (v := 1) rfl dL_law_546 (by decide) ?_
      refine r_iadd rfl dL_law_547 ?_
      refine r_eqi (y := nI ((4 * j) + 1)) (show (nI (4 * j)) + 1 = nI ((4 * j) + 1) from nI_add (4 * j) 1) ?_
      refine r_sld (jn := (4 * j) + 1) rfl dL_law_548 (vp_in_nI (n := (4 * j) + 1) (by omega) (by omega)) (nI_clamp (n := (4 * j) + 1) (by omega)) ?_
      obtain ⟨fs390, f389⟩ := hI.o2
      refine cl_L_81 rfl rfl dL_law_549 (by decide) (by decide) f389 (Nat.le_of_ble_eq_true rfl) (k5_bounds hS hI hc hm) ?_
      rintro _ h384 _ ⟨rfl, hS385, hI386, hk387, x388, rfl⟩
      have hI394 := hJ.ku hk387
      refine r_pop rfl dL_law_552 rfl ?_
      refine r_aload_n rfl dL_law_553 rfl ?_
      refine r_aload_n rfl dL_law_554 rfl ?_
      refine r_iload_n rfl dL_law_555 rfl ?_
      refine r_iconst (v := 1) rfl dL_law_556 (by decide) ?_
      refine r_iadd rfl dL_law_557 ?_
      refine r_eqi (y := nI ((4 * j) + 1)) (show (nI (4 * j)) + 1 = nI ((4 * j) + 1) from nI_add (4 * j) 1) ?_
      refine r_sld (jn := (4 * j) + 1) rfl dL_law_558 (vp_in_nI (n := (4 * j) + 1) (by omega) (by omega)) (nI_clamp (n := (4 * j) + 1) (by omega)) ?_
      obtain ⟨fs401, f400⟩ := hI394.o5
      refine cl_L_84 rfl rfl dL_law_559 (by decide) (by decide) f400 (Nat.le_of_ble_eq_true rfl) (j5_bounds hS385 hI394 hc hm) ?_
      rintro _ h395 _ ⟨rfl, hS396, hI397, hk398, x399, rfl⟩
      have hI405 := hI386.kd (by omega) hk398
      refine r_pop rfl dL_law_562 rfl ?_
      refine r_goto (pc' := 784) rfl dL_law_563 ?_
      refine r_iinc (y := nI (4 * j + 4)) (ls' := [some (.ref 0), some (.ref 2), some (.ref 420), some (.int (nI (4 * j + 4)))]) rfl dL_law_784 rfl (show nI (4 * j) + Int32.ofInt 4 = nI (4 * j + 4) from nI_add (4 * j) 4) (Nat.le_of_ble_eq_true rfl) rfl ?_
      refine r_goto (pc' := 18) rfl dL_law_787 ?_
      rw [show 4 * j + 4 = 4 * (j + 1) by omega]
      exact ih h395 _ _ _ _ _ _ _ _ _ hS396 hI405 hI397 hX hc hm
    · refine r_swI (off := 534) (tgt := 566) dL_law_32 rfl c53a c53b (by rw [c53e]; rfl) ?_
      refine r_aload_n rfl dL_law_566 rfl ?_
      refine r_aload_n rfl dL_law_567 rfl ?_
      refine r_iload_n rfl dL_law_568 rfl ?_
      refine r_iconst (v := 1) rfl dL_law_569 (by decide) ?_
      refine r_iadd rfl dL_law_570 ?_
      refine r_eqi (y := nI ((4 * j) + 1)) (show (nI (4 * j)) + 1 = nI ((4 * j) + 1) from nI_add (4 * j) 1) ?_
      refine r_sld (jn := (4 * j) + 1) rfl dL_law_571 (vp_in_nI (n := (4 * j) + 1) (by omega) (by omega)) (nI_clamp (n := (4 * j) + 1) (by omega)) ?_
      obtain ⟨fs412, f411⟩ := hI.o2
      refine cl_L_85 rfl rfl dL_law_572 (by decide) (by decide) f411 (Nat.le_of_ble_eq_true rfl) (k5_fewest hS hI hc hm) ?_
      rintro _ h406 _ ⟨rfl, hS407, hI408, hk409, x410, rfl⟩
      have hI416 := hJ.ku hk409
      refine r_pop rfl dL_law_575 rfl ?_
      refine r_aload_n rfl dL_law_576 rfl ?_
      refine r_aload_n rfl dL_law_577 rfl ?_
      refine r_iload_n rfl dL_law_578 rfl ?_
      refine r_iconst (v := 1) rfl dL_law_579 (by decide) ?_
      refine r_iadd rfl dL_law_580 ?_
      refine r_eqi (y := nI ((4 * j) + 1)) (show (nI (4 * j)) + 1 = nI ((4 * j) + 1) from nI_add (4 * j) 1) ?_
      refine r_sld (jn := (4 * j) + 1) rfl dL_law_581 (vp_in_nI (n := (4 * j) + 1) (by omega) (by omega)) (nI_clamp (n := (4 * j) + 1) (by omega)) ?_
      obtain ⟨fs423, f422⟩ := hI416.o5
      refine cl_L_88 rfl rfl dL_law_582 (by decide) (by decide) f422 (Nat.le_of_ble_eq_true rfl) (j5_fewest hS407 hI416 hc hm) ?_
      rintro _ h417 _ ⟨rfl, hS418, hI419, hk420, x421, rfl⟩
      have hI427 := hI408.kd (by omega) hk420
      refine r_pop rfl dL_law_585 rfl ?_
      refine r_goto (pc' := 784) rfl dL_law_586 ?_
      refine r_iinc (y := nI (4 * j + 4)) (ls' := [some (.ref 0), some (.ref 2), some (.ref 420), some (.int (nI (4 * j + 4)))]) rfl dL_law_784 rfl (show nI (4 * j) + Int32.ofInt 4 = nI (4 * j + 4) from nI_add (4 * j) 4) (Nat.le_of_ble_eq_true rfl) rfl ?_
      refine r_goto (pc' := 18) rfl dL_law_787 ?_
      rw [show 4 * j + 4 = 4 * (j + 1) by omega]
      exact ih h417 _ _ _ _ _ _ _ _ _ hS418 hI427 hI419 hX hc hm
    · refine r_swI (off := 557) (tgt := 589) dL_law_32 rfl c53a c53b (by rw [c53e]; rfl) ?_
      refine r_aload_n rfl dL_law_589 rfl ?_
      refine r_aload_n rfl dL_law_590 rfl ?_
      refine r_iload_n rfl dL_law_591 rfl ?_
      refine r_iconst (v := 1) rfl dL_law_592 (by decide) ?_
      refine r_iadd rfl dL_law_593 ?_
      refine r_eqi (y := nI ((4 * j) + 1)) (show (nI (4 * j)) + 1 = nI ((4 * j) + 1) from nI_add (4 * j) 1) ?_
      refine r_sld (jn := (4 * j) + 1) rfl dL_law_594 (vp_in_nI (n := (4 * j) + 1) (by omega) (by omega)) (nI_clamp (n := (4 * j) + 1) (by omega)) ?_
      refine r_aload_n rfl dL_law_595 rfl ?_
      refine r_iload_n rfl dL_law_596 rfl ?_
      refine r_iconst (v := 2) rfl dL_law_597 (by decide) ?_
      refine r_iadd rfl dL_law_598 ?_
      refine r_eqi (y := nI ((4 * j) + 2)) (show (nI (4 * j)) + 2 = nI ((4 * j) + 2) from nI_add (4 * j) 2) ?_
      refine r_sld (jn := (4 * j) + 2) rfl dL_law_599 (vp_in_nI (n := (4 * j) + 2) (by omega) (by omega)) (nI_clamp (n := (4 * j) + 2) (by omega)) ?_
      obtain ⟨fs434, f433⟩ := hI.o2
      refine cl_L_89 rfl rfl dL_law_600 (by decide) (by decide) f433 (Nat.le_of_ble_eq_true rfl) (k5_tell hS hI hc hm) ?_
      rintro _ h428 _ ⟨rfl, hS429, hI430, hk431, x432, rfl⟩
      have hI438 := hJ.ku hk431
      refine r_pop rfl dL_law_603 rfl ?_
      refine r_aload_n rfl dL_law_604 rfl ?_
      refine r_aload_n rfl dL_law_605 rfl ?_
      refine r_iload_n rfl dL_law_606 rfl ?_
      refine r_iconst (v := 1) rfl dL_law_607 (by decide) ?_
      refine r_iadd rfl dL_law_608 ?_
      refine r_eqi (y := nI ((4 * j) + 1)) (show (nI (4 * j)) + 1 = nI ((4 * j) + 1) from nI_add (4 * j) 1) ?_
      refine r_sld (jn := (4 * j) + 1) rfl dL_law_609 (vp_in_nI (n := (4 * j) + 1) (by omega) (by omega)) (nI_clamp (n := (4 * j) + 1) (by omega)) ?_
      refine r_aload_n rfl dL_law_610 rfl ?_
      refine r_iload_n rfl dL_law_611 rfl ?_
      refine r_iconst (v := 2) rfl dL_law_612 (by decide) ?_
      refine r_iadd rfl dL_law_613 ?_
      refine r_eqi (y := nI ((4 * j) + 2)) (show (nI (4 * j)) + 2 = nI ((4 * j) + 2) from nI_add (4 * j) 2) ?_
      refine r_sld (jn := (4 * j) + 2) rfl dL_law_614 (vp_in_nI (n := (4 * j) + 2) (by omega) (by omega)) (nI_clamp (n := (4 * j) + 2) (by omega)) ?_
      obtain ⟨fs445, f444⟩ := hI438.o5
      refine cl_L_92 rfl rfl dL_law_615 (by decide) (by decide) f444 (Nat.le_of_ble_eq_true rfl) (j5_tell hS429 hI438 hc hm) ?_
      rintro _ h439 _ ⟨rfl, hS440, hI441, hk442, x443, rfl⟩
      have hI449 := hI430.kd (by omega) hk442
      refine r_pop rfl dL_law_618 rfl ?_
      refine r_goto (pc' := 784) rfl dL_law_619 ?_
      refine r_iinc (y := nI (4 * j + 4)) (ls' := [some (.ref 0), some (.ref 2), some (.ref 420), some (.int (nI (4 * j + 4)))]) rfl dL_law_784 rfl (show nI (4 * j) + Int32.ofInt 4 = nI (4 * j + 4) from nI_add (4 * j) 4) (Nat.le_of_ble_eq_true rfl) rfl ?_
      refine r_goto (pc' := 18) rfl dL_law_787 ?_
      rw [show 4 * j + 4 = 4 * (j + 1) by omega]
      exact ih h439 _ _ _ _ _ _ _ _ _ hS440 hI449 hI441 hX hc hm
    · refine r_swI (off := 590) (tgt := 622) dL_law_32 rfl c53a c53b (by rw [c53e]; rfl) ?_
      refine r_aload_n rfl dL_law_622 rfl ?_
      refine r_aload_n rfl dL_law_623 rfl ?_
      refine r_iload_n rfl dL_law_624 rfl ?_
      refine r_iconst (v := 1) rfl dL_law_625 (by decide) ?_
      refine r_iadd rfl dL_law_626 ?_
      refine r_eqi (y := nI ((4 * j) + 1)) (show (nI (4 * j)) + 1 = nI ((4 * j) + 1) from nI_add (4 * j) 1) ?_
      refine r_sld (jn := (4 * j) + 1) rfl dL_law_627 (vp_in_nI (n := (4 * j) + 1) (by omega) (by omega)) (nI_clamp (n := (4 * j) + 1) (by omega)) ?_
      refine r_aload_n rfl dL_law_628 rfl ?_
      refine r_iload_n rfl dL_law_629 rfl ?_
      refine r_iconst (v := 2) rfl dL_law_630 (by decide) ?_
      refine r_iadd rfl dL_law_631 ?_
      refine r_eqi (y := nI ((4 * j) + 2)) (show (nI (4 * j)) + 2 = nI ((4 * j) + 2) from nI_add (4 * j) 2) ?_
      refine r_sld (jn := (4 * j) + 2) rfl dL_law_632 (vp_in_nI (n := (4 * j) + 2) (by omega) (by omega)) (nI_clamp (n := (4 * j) + 2) (by omega)) ?_
      refine r_aload_n rfl dL_law_633 rfl ?_
      refine r_iload_n rfl dL_law_634 rfl ?_
      refine r_iconst (v := 3) rfl dL_law_635 (by decide) ?_
      refine r_iadd rfl dL_law_636 ?_
      refine r_eqi (y := nI ((4 * j) + 3)) (show (nI (4 * j)) + 3 = nI ((4 * j) + 3) from nI_add (4 * j) 3) ?_
      refine r_sld (jn := (4 * j) + 3) rfl dL_law_637 (vp_in_nI (n := (4 * j) + 3) (by omega) (by omega)) (nI_clamp (n := (4 * j) + 3) (by omega)) ?_
      obtain ⟨fs456, f455⟩ := hI.o2
      refine cl_L_93 rfl rfl dL_law_638 (by decide) (by decide) f455 (Nat.le_of_ble_eq_true rfl) (k5_copy hS hI hc hm) ?_
      rintro _ h450 _ ⟨rfl, hS451, hI452, hk453, x454, rfl⟩
      have hI460 := hJ.ku hk453
      refine r_pop rfl dL_law_641 rfl ?_
      refine r_aload_n rfl dL_law_642 rfl ?_
      refine r_aload_n rfl dL_law_643 rfl ?_
      refine r_iload_n rfl dL_law_644 rfl ?_
      refine r_iconst (v := 1) rfl dL_law_645 (by decide) ?_
      refine r_iadd rfl dL_law_646 ?_
      refine r_eqi (y := nI ((4 * j) + 1)) (show (nI (4 * j)) + 1 = nI ((4 * j) + 1) from nI_add (4 * j) 1) ?_
      refine r_sld (jn := (4 * j) + 1) rfl dL_law_647 (vp_in_nI (n := (4 * j) + 1) (by omega) (by omega)) (nI_clamp (n := (4 * j) + 1) (by omega)) ?_
      refine r_aload_n rfl dL_law_648 rfl ?_
      refine r_iload_n rfl dL_law_649 rfl ?_
      refine r_iconst (v := 2) rfl dL_law_650 (by decide) ?_
      refine r_iadd rfl dL_law_651 ?_
      refine r_eqi (y := nI ((4 * j) + 2)) (show (nI (4 * j)) + 2 = nI ((4 * j) + 2) from nI_add (4 * j) 2) ?_
      refine r_sld (jn := (4 * j) + 2) rfl dL_law_652 (vp_in_nI (n := (4 * j) + 2) (by omega) (by omega)) (nI_clamp (n := (4 * j) + 2) (by omega)) ?_
      refine r_aload_n rfl dL_law_653 rfl ?_
      refine r_iload_n rfl dL_law_654 rfl ?_
      refine r_iconst (v := 3) rfl dL_law_655 (by decide) ?_
      refine r_iadd rfl dL_law_656 ?_
      refine r_eqi (y := nI ((4 * j) + 3)) (show (nI (4 * j)) + 3 = nI ((4 * j) + 3) from nI_add (4 * j) 3) ?_
      refine r_sld (jn := (4 * j) + 3) rfl dL_law_657 (vp_in_nI (n := (4 * j) + 3) (by omega) (by omega)) (nI_clamp (n := (4 * j) + 3) (by omega)) ?_
      obtain ⟨fs467, f466⟩ := hI460.o5
      refine cl_L_96 rfl rfl dL_law_658 (by decide) (by decide) f466 (Nat.le_of_ble_eq_true rfl) (j5_copy hS451 hI460 hc hm) ?_
      rintro _ h461 _ ⟨rfl, hS462, hI463, hk464, x465, rfl⟩
      have hI471 := hI452.kd (by omega) hk464
      refine r_pop rfl dL_law_661 rfl ?_
      refine r_goto (pc' := 784) rfl dL_law_662 ?_
      refine r_iinc (y := nI (4 * j + 4)) (ls' := [some (.ref 0), some (.ref 2), some (.ref 420), some (.int (nI (4 * j + 4)))]) rfl dL_law_784 rfl (show nI (4 * j) + Int32.ofInt 4 = nI (4 * j + 4) from nI_add (4 * j) 4) (Nat.le_of_ble_eq_true rfl) rfl ?_
      refine r_goto (pc' := 18) rfl dL_law_787 ?_
      rw [show 4 * j + 4 = 4 * (j + 1) by omega]
      exact ih h461 _ _ _ _ _ _ _ _ _ hS462 hI471 hI463 hX hc hm
    · refine r_swI (off := 633) (tgt := 665) dL_law_32 rfl c53a c53b (by rw [c53e]; rfl) ?_
      refine r_aload_n rfl dL_law_665 rfl ?_
      obtain ⟨fs478, f477⟩ := hI.o2
      refine cl_L_97 rfl rfl dL_law_666 (by decide) (by decide) f477 (Nat.le_of_ble_eq_true rfl) (k5_check hS hI hc hm) ?_
      rintro _ h472 _ ⟨rfl, hS473, hI474, hk475, x476, rfl⟩
      have hI482 := hJ.ku hk475
      refine r_pop rfl dL_law_669 rfl ?_
      refine r_aload_n rfl dL_law_670 rfl ?_
      obtain ⟨fs489, f488⟩ := hI482.o5
      refine cl_L_100 rfl rfl dL_law_671 (by decide) (by decide) f488 (Nat.le_of_ble_eq_true rfl) (j5_check hS473 hI482 hc hm) ?_
      rintro _ h483 _ ⟨rfl, hS484, hI485, hk486, x487, rfl⟩
      have hI493 := hI474.kd (by omega) hk486
      refine r_pop rfl dL_law_674 rfl ?_
      refine r_goto (pc' := 784) rfl dL_law_675 ?_
      refine r_iinc (y := nI (4 * j + 4)) (ls' := [some (.ref 0), some (.ref 2), some (.ref 420), some (.int (nI (4 * j + 4)))]) rfl dL_law_784 rfl (show nI (4 * j) + Int32.ofInt 4 = nI (4 * j + 4) from nI_add (4 * j) 4) (Nat.le_of_ble_eq_true rfl) rfl ?_
      refine r_goto (pc' := 18) rfl dL_law_787 ?_
      rw [show 4 * j + 4 = 4 * (j + 1) by omega]
      exact ih h483 _ _ _ _ _ _ _ _ _ hS484 hI493 hI485 hX hc hm
    · refine r_swI (off := 646) (tgt := 678) dL_law_32 rfl c53a c53b (by rw [c53e]; rfl) ?_
      refine r_aload_n rfl dL_law_678 rfl ?_
      obtain ⟨fs500, f499⟩ := hI.o2
      refine cl_L_101 rfl rfl dL_law_679 (by decide) (by decide) f499 (Nat.le_of_ble_eq_true rfl) (k5_used hS hI hc hm) ?_
      rintro _ h494 _ ⟨rfl, hS495, hI496, hk497, x498, rfl⟩
      have hI504 := hJ.ku hk497
      refine r_pop rfl dL_law_682 rfl ?_
      refine r_aload_n rfl dL_law_683 rfl ?_
      obtain ⟨fs511, f510⟩ := hI504.o5
      refine cl_L_104 rfl rfl dL_law_684 (by decide) (by decide) f510 (Nat.le_of_ble_eq_true rfl) (j5_used hS495 hI504 hc hm) ?_
      rintro _ h505 _ ⟨rfl, hS506, hI507, hk508, x509, rfl⟩
      have hI515 := hI496.kd (by omega) hk508
      refine r_pop rfl dL_law_687 rfl ?_
      refine r_goto (pc' := 784) rfl dL_law_688 ?_
      refine r_iinc (y := nI (4 * j + 4)) (ls' := [some (.ref 0), some (.ref 2), some (.ref 420), some (.int (nI (4 * j + 4)))]) rfl dL_law_784 rfl (show nI (4 * j) + Int32.ofInt 4 = nI (4 * j + 4) from nI_add (4 * j) 4) (Nat.le_of_ble_eq_true rfl) rfl ?_
      refine r_goto (pc' := 18) rfl dL_law_787 ?_
      rw [show 4 * j + 4 = 4 * (j + 1) by omega]
      exact ih h505 _ _ _ _ _ _ _ _ _ hS506 hI515 hI507 hX hc hm
    · refine r_swI (off := 659) (tgt := 691) dL_law_32 rfl c53a c53b (by rw [c53e]; rfl) ?_
      refine r_aload_n rfl dL_law_691 rfl ?_
      refine r_aload_n rfl dL_law_692 rfl ?_
      refine r_iload_n rfl dL_law_693 rfl ?_
      refine r_iconst (v := 1) rfl dL_law_694 (by decide) ?_
      refine r_iadd rfl dL_law_695 ?_
      refine r_eqi (y := nI ((4 * j) + 1)) (show (nI (4 * j)) + 1 = nI ((4 * j) + 1) from nI_add (4 * j) 1) ?_
      refine r_sld (jn := (4 * j) + 1) rfl dL_law_696 (vp_in_nI (n := (4 * j) + 1) (by omega) (by omega)) (nI_clamp (n := (4 * j) + 1) (by omega)) ?_
      obtain ⟨fs522, f521⟩ := hI.o2
      refine cl_L_105 rfl rfl dL_law_697 (by decide) (by decide) f521 (Nat.le_of_ble_eq_true rfl) (k5_needed hS hI hc hm) ?_
      rintro _ h516 _ ⟨rfl, hS517, hI518, hk519, x520, rfl⟩
      have hI526 := hJ.ku hk519
      refine r_pop rfl dL_law_700 rfl ?_
      refine r_aload_n rfl dL_law_701 rfl ?_
      refine r_aload_n rfl dL_law_702 rfl ?_
      refine r_iload_n rfl dL_law_703 rfl ?_
      refine r_iconst (v := 1) rfl dL_law_704 (by decide) ?_
      refine r_iadd rfl dL_law_705 ?_
      refine r_eqi (y := nI ((4 * j) + 1)) (show (nI (4 * j)) + 1 = nI ((4 * j) + 1) from nI_add (4 * j) 1) ?_
      refine r_sld (jn := (4 * j) + 1) rfl dL_law_706 (vp_in_nI (n := (4 * j) + 1) (by omega) (by omega)) (nI_clamp (n := (4 * j) + 1) (by omega)) ?_
      obtain ⟨fs533, f532⟩ := hI526.o5
      refine cl_L_108 rfl rfl dL_law_707 (by decide) (by decide) f532 (Nat.le_of_ble_eq_true rfl) (j5_needed hS517 hI526 hc hm) ?_
      rintro _ h527 _ ⟨rfl, hS528, hI529, hk530, x531, rfl⟩
      have hI537 := hI518.kd (by omega) hk530
      refine r_pop rfl dL_law_710 rfl ?_
      refine r_goto (pc' := 784) rfl dL_law_711 ?_
      refine r_iinc (y := nI (4 * j + 4)) (ls' := [some (.ref 0), some (.ref 2), some (.ref 420), some (.int (nI (4 * j + 4)))]) rfl dL_law_784 rfl (show nI (4 * j) + Int32.ofInt 4 = nI (4 * j + 4) from nI_add (4 * j) 4) (Nat.le_of_ble_eq_true rfl) rfl ?_
      refine r_goto (pc' := 18) rfl dL_law_787 ?_
      rw [show 4 * j + 4 = 4 * (j + 1) by omega]
      exact ih h527 _ _ _ _ _ _ _ _ _ hS528 hI537 hI529 hX hc hm
    · refine r_swI (off := 682) (tgt := 714) dL_law_32 rfl c53a c53b (by rw [c53e]; rfl) ?_
      refine r_aload_n rfl dL_law_714 rfl ?_
      refine r_aload_n rfl dL_law_715 rfl ?_
      refine r_iload_n rfl dL_law_716 rfl ?_
      refine r_iconst (v := 1) rfl dL_law_717 (by decide) ?_
      refine r_iadd rfl dL_law_718 ?_
      refine r_eqi (y := nI ((4 * j) + 1)) (show (nI (4 * j)) + 1 = nI ((4 * j) + 1) from nI_add (4 * j) 1) ?_
      refine r_sld (jn := (4 * j) + 1) rfl dL_law_719 (vp_in_nI (n := (4 * j) + 1) (by omega) (by omega)) (nI_clamp (n := (4 * j) + 1) (by omega)) ?_
      refine r_aload_n rfl dL_law_720 rfl ?_
      refine r_iload_n rfl dL_law_721 rfl ?_
      refine r_iconst (v := 2) rfl dL_law_722 (by decide) ?_
      refine r_iadd rfl dL_law_723 ?_
      refine r_eqi (y := nI ((4 * j) + 2)) (show (nI (4 * j)) + 2 = nI ((4 * j) + 2) from nI_add (4 * j) 2) ?_
      refine r_sld (jn := (4 * j) + 2) rfl dL_law_724 (vp_in_nI (n := (4 * j) + 2) (by omega) (by omega)) (nI_clamp (n := (4 * j) + 2) (by omega)) ?_
      obtain ⟨fs544, f543⟩ := hI.o2
      refine cl_L_109 rfl rfl dL_law_725 (by decide) (by decide) f543 (Nat.le_of_ble_eq_true rfl) (k5_labour hS hI hc hm) ?_
      rintro _ h538 _ ⟨rfl, hS539, hI540, hk541, x542, rfl⟩
      have hI548 := hJ.ku hk541
      refine r_pop rfl dL_law_728 rfl ?_
      refine r_aload_n rfl dL_law_729 rfl ?_
      refine r_aload_n rfl dL_law_730 rfl ?_
      refine r_iload_n rfl dL_law_731 rfl ?_
      refine r_iconst (v := 1) rfl dL_law_732 (by decide) ?_
      refine r_iadd rfl dL_law_733 ?_
      refine r_eqi (y := nI ((4 * j) + 1)) (show (nI (4 * j)) + 1 = nI ((4 * j) + 1) from nI_add (4 * j) 1) ?_
      refine r_sld (jn := (4 * j) + 1) rfl dL_law_734 (vp_in_nI (n := (4 * j) + 1) (by omega) (by omega)) (nI_clamp (n := (4 * j) + 1) (by omega)) ?_
      refine r_aload_n rfl dL_law_735 rfl ?_
      refine r_iload_n rfl dL_law_736 rfl ?_
      refine r_iconst (v := 2) rfl dL_law_737 (by decide) ?_
      refine r_iadd rfl dL_law_738 ?_
      refine r_eqi (y := nI ((4 * j) + 2)) (show (nI (4 * j)) + 2 = nI ((4 * j) + 2) from nI_add (4 * j) 2) ?_
      refine r_sld (jn := (4 * j) + 2) rfl dL_law_739 (vp_in_nI (n := (4 * j) + 2) (by omega) (by omega)) (nI_clamp (n := (4 * j) + 2) (by omega)) ?_
      obtain ⟨fs555, f554⟩ := hI548.o5
      refine cl_L_112 rfl rfl dL_law_740 (by decide) (by decide) f554 (Nat.le_of_ble_eq_true rfl) (j5_labour hS539 hI548 hc hm) ?_
      rintro _ h549 _ ⟨rfl, hS550, hI551, hk552, x553, rfl⟩
      have hI559 := hI540.kd (by omega) hk552
      refine r_pop rfl dL_law_743 rfl ?_
      refine r_goto (pc' := 784) rfl dL_law_744 ?_
      refine r_iinc (y := nI (4 * j + 4)) (ls' := [some (.ref 0), some (.ref 2), some (.ref 420), some (.int (nI (4 * j + 4)))]) rfl dL_law_784 rfl (show nI (4 * j) + Int32.ofInt 4 = nI (4 * j + 4) from nI_add (4 * j) 4) (Nat.le_of_ble_eq_true rfl) rfl ?_
      refine r_goto (pc' := 18) rfl dL_law_787 ?_
      rw [show 4 * j + 4 = 4 * (j + 1) by omega]
      exact ih h549 _ _ _ _ _ _ _ _ _ hS550 hI559 hI551 hX hc hm
    · refine r_swI (off := 715) (tgt := 747) dL_law_32 rfl c53a c53b (by rw [c53e]; rfl) ?_
      refine r_aload_n rfl dL_law_747 rfl ?_
      refine r_aload_n rfl dL_law_748 rfl ?_
      refine r_iload_n rfl dL_law_749 rfl ?_
      refine r_iconst (v := 1) rfl dL_law_750 (by decide) ?_
      refine r_iadd rfl dL_law_751 ?_
      refine r_eqi (y := nI ((4 * j) + 1)) (show (nI (4 * j)) + 1 = nI ((4 * j) + 1) from nI_add (4 * j) 1) ?_
      refine r_sld (jn := (4 * j) + 1) rfl dL_law_752 (vp_in_nI (n := (4 * j) + 1) (by omega) (by omega)) (nI_clamp (n := (4 * j) + 1) (by omega)) ?_
      obtain ⟨fs566, f565⟩ := hI.o2
      refine cl_L_113 rfl rfl dL_law_753 (by decide) (by decide) f565 (Nat.le_of_ble_eq_true rfl) (k5_count hS hI hc hm) ?_
      rintro _ h560 _ ⟨rfl, hS561, hI562, hk563, x564, rfl⟩
      have hI570 := hJ.ku hk563
      refine r_pop rfl dL_law_756 rfl ?_
      refine r_aload_n rfl dL_law_757 rfl ?_
      refine r_aload_n rfl dL_law_758 rfl ?_
      refine r_iload_n rfl dL_law_759 rfl ?_
      refine r_iconst (v := 1) rfl dL_law_760 (by decide) ?_
      refine r_iadd rfl dL_law_761 ?_
      refine r_eqi (y := nI ((4 * j) + 1)) (show (nI (4 * j)) + 1 = nI ((4 * j) + 1) from nI_add (4 * j) 1) ?_
      refine r_sld (jn := (4 * j) + 1) rfl dL_law_762 (vp_in_nI (n := (4 * j) + 1) (by omega) (by omega)) (nI_clamp (n := (4 * j) + 1) (by omega)) ?_
      obtain ⟨fs577, f576⟩ := hI570.o5
      refine cl_L_116 rfl rfl dL_law_763 (by decide) (by decide) f576 (Nat.le_of_ble_eq_true rfl) (j5_count hS561 hI570 hc hm) ?_
      rintro _ h571 _ ⟨rfl, hS572, hI573, hk574, x575, rfl⟩
      have hI581 := hI562.kd (by omega) hk574
      refine r_pop rfl dL_law_766 rfl ?_
      refine r_goto (pc' := 784) rfl dL_law_767 ?_
      refine r_iinc (y := nI (4 * j + 4)) (ls' := [some (.ref 0), some (.ref 2), some (.ref 420), some (.int (nI (4 * j + 4)))]) rfl dL_law_784 rfl (show nI (4 * j) + Int32.ofInt 4 = nI (4 * j + 4) from nI_add (4 * j) 4) (Nat.le_of_ble_eq_true rfl) rfl ?_
      refine r_goto (pc' := 18) rfl dL_law_787 ?_
      rw [show 4 * j + 4 = 4 * (j + 1) by omega]
      exact ih h571 _ _ _ _ _ _ _ _ _ hS572 hI581 hI573 hX hc hm
    · refine r_swI (off := 738) (tgt := 770) dL_law_32 rfl c53a c53b (by rw [c53e]; rfl) ?_
      refine r_aload_n rfl dL_law_770 rfl ?_
      obtain ⟨fs588, f587⟩ := hI.o2
      refine cl_L_117 rfl rfl dL_law_771 (by decide) (by decide) f587 (Nat.le_of_ble_eq_true rfl) (k5_trace hS hI hc hm) ?_
      rintro _ h582 _ ⟨rfl, hS583, hI584, hk585, rfl⟩
      have hI592 := hJ.ku hk585
      refine r_aload_n rfl dL_law_774 rfl ?_
      obtain ⟨fs599, f598⟩ := hI592.o5
      refine cl_L_121 rfl rfl dL_law_775 (by decide) (by decide) f598 (Nat.le_of_ble_eq_true rfl) (j5_trace hS583 hI592 hc hm) ?_
      rintro _ h593 _ ⟨rfl, hS594, hI595, hk596, rfl⟩
      have hI603 := hI584.kd (by omega) hk596
      refine r_lcmp rfl dL_law_778 ?_
      refine r_if_eq (tgt := 784) rfl rfl dL_law_779 (fun _ => ?_) (fun zc => absurd (lgc0.mpr rfl) zc)
      refine r_iinc (y := nI (4 * j + 4)) (ls' := [some (.ref 0), some (.ref 2), some (.ref 420), some (.int (nI (4 * j + 4)))]) rfl dL_law_784 rfl (show nI (4 * j) + Int32.ofInt 4 = nI (4 * j + 4) from nI_add (4 * j) 4) (Nat.le_of_ble_eq_true rfl) rfl ?_
      refine r_goto (pc' := 18) rfl dL_law_787 ?_
      rw [show 4 * j + 4 = 4 * (j + 1) by omega]
      exact ih h593 _ _ _ _ _ _ _ _ _ hS594 hI603 hI595 hX hc hm
set_option maxRecDepth 20000 in
theorem law_end {xs : Nat → Int32} {L d kc ks : Nat} {h : ev_H} {j : Nat} (hL : L ≤ 2048 ∧ 4 * j ≤ L + 4) (hj : L < 4 * j + 4) : EV xs L (d + 23) kc ks M_L_law 434 h 18 [some (.ref 0), some (.ref 2), some (.ref 420), some (.int (nI (4 * j)))] [] (fun _ _ r => r = [.int 1]) := by
  refine r_iload_n rfl dL_law_18 rfl ?_
  refine r_aload_n rfl dL_law_19 rfl ?_
  refine r_slen rfl dL_law_20 ?_
  refine r_iconst (v := 4) rfl dL_law_21 (by decide) ?_
  refine r_isub rfl dL_law_22 ?_
  refine r_icmp_gt (tgt := 790) rfl rfl dL_law_23 (fun _ => ?_) (fun zc => absurd (law_out hL hj) zc)
  refine r_iconst (v := 1) rfl dL_law_790 (by decide) ?_
  exact r_ret dL_law_791 (rt_z rfl (Or.inr rfl)) rfl
theorem law_loop {xs : Nat → Int32} {L d kc ks : Nat} (hL : L ≤ 2048) : ∀ (t j : Nat) (h : ev_H) (n c m t0 : Nat) (wr : Int32) (s : Int64) (f g G : Nat → Int32), L < 4 * j + 4 * t + 4 → 4 * j ≤ L + 4 → SH h → IC5 n c m t0 wr s f G h → IM5 n c m t0 wr s g G h → TXR f g n → c ≤ 16 → m ≤ 24 → EV xs L (d + 23) kc ks M_L_law 434 h 18 [some (.ref 0), some (.ref 2), some (.ref 420), some (.int (nI (4 * j)))] [] (fun _ _ r => r = [.int 1]) := by
  intro t
  induction t with
  | zero => intro j h n c m t0 wr s f g G ht hj hS hI hJ hX hc hm; exact law_end ⟨hL, hj⟩ (by omega)
  | succ t ih =>
    intro j h n c m t0 wr s f g G ht hj hS hI hJ hX hc hm
    by_cases hz : 4 * j + 4 ≤ L
    · exact law_step hS hI hJ hX hc hm hL hz (fun h' n' c' m' t' wr' s' f' g' G' q1 q2 q3 q4 q5 q6 => ih (j + 1) h' n' c' m' t' wr' s' f' g' G' (by omega) (by omega) q1 q2 q3 q4 q5 q6)
    · exact law_end ⟨hL, hj⟩ (by omega)
set_option maxRecDepth 20000 in
set_option maxHeartbeats 1000000 in
theorem law_body {xs : Nat → Int32} {L d : Nat} {h : ev_H}  (hW : WTH h) (hL : L ≤ 2048) : EV xs L (d + 23) (600000) (7302250) M_L_law (2) h 0 [some (.ref 0), none, none, none] [] (fun sz' h' r => r = [.int 1]) := by
  refine r_bud (kc' := 599999 + 1) (ks' := 7302234 + 16) (by omega) (by omega) ?_
  refine k_new 11 (fs := [.null, .null, .null, .null, .null, .null, .null, .null, .null, .null, .null, .int 0, .int 0, .int 0, .int 0, .int 0]) rfl dL_law_0 hW rfl rfl lk_L_7 lt_X11 lz_X11 rfl (fun h51 hW52 hk53 f54 => ?_)
  have K55 : KL (2) h h51 := KL_tr (by omega) (KL_rf (2) h) hk53
  refine r_dup rfl dL_law_3 rfl ?_
  refine r_bud (kc' := 417 + (599582)) (ks' := 1924 + (7300310)) (by omega) (by omega) ?_
  refine cl_L_9 rfl rfl dL_law_4 (Nat.le_of_ble_eq_true rfl) (s_X11_init hW52 f54) ?_
  rintro _ h56 _ ⟨rfl, hW57, hk58, B59, f60, f61, f62, f63, f64, rfl⟩
  have K65 : KL (2) h h56 := KL_tr (by omega) K55 hk58
  refine r_astore_n (ls' := [some (.ref 0), some (.ref 2), none, none]) rfl dL_law_7 (Nat.le_of_ble_eq_true rfl) rfl ?_
  refine r_bud (kc' := 599581 + 1) (ks' := 7300285 + 25) (by omega) (by omega) ?_
  refine k_new 12 (fs := [.int 0, .long 0, .null, .int 0, .int 0, .int 0, .int 0, .int 0, .int 0, .int 0, .int 0, .int 0, .int 0, .null, .null, .null, .null, .null, .null, .null, .null, .null, .null, .null, .null]) rfl dL_law_8 hW57 rfl rfl lk_L_10 lt_X12 lz_X12 rfl (fun h66 hW67 hk68 f69 => ?_)
  have f70 : h66 (2) = c2 0 0 0 (-9) (-9) := (hk68 (2) (by omega)).trans f60
  have f71 : h66 (3) = c3 0 0 0 0 0 := (hk68 (3) (by omega)).trans f61
  have f72 : h66 (4) = c4 (fun _ => 0) := (hk68 (4) (by omega)).trans f62
  have f73 : h66 (24) = c24 0 0 0 0 := (hk68 (24) (by omega)).trans f63
  have f74 : h66 (95) = .inr (9, [.long 0]) := (hk68 (95) (by omega)).trans f64
  have B75 : BT (2) (420) h66 := BT_kl B59 hk68 (by omega)
  have K76 : KL (2) h h66 := KL_tr (by omega) K65 hk68
  refine r_dup rfl dL_law_11 rfl ?_
  refine r_bud (kc' := 13 + (599568)) (ks' := 1329 + (7298956)) (by omega) (by omega) ?_
  refine cl_L_12 rfl rfl dL_law_12 (Nat.le_of_ble_eq_true rfl) (s_X12_init hW67 f69 B75) ?_
  rintro _ h77 _ ⟨rfl, hS78, hk79, f80, f81, rfl⟩
  refine r_astore_n (ls' := [some (.ref 0), some (.ref 2), some (.ref 420), none]) rfl dL_law_15 (Nat.le_of_ble_eq_true rfl) rfl ?_
  refine r_iconst (v := 0) rfl dL_law_16 (by decide) ?_
  refine r_istore_n (ls' := [some (.ref 0), some (.ref 2), some (.ref 420), some (.int 0)]) rfl dL_law_17 (Nat.le_of_ble_eq_true rfl) rfl ?_
  obtain ⟨G0, f22⟩ := hS78.li LI_422
  obtain ⟨u1, u2, u3, u4, f13⟩ := hS78.o13
  refine law_loop hL L 0 h77 0 0 0 0 (-9) 0 (fun _ => 0) (fun _ => 0) G0 (by omega) (by omega) hS78 ⟨((hk79 2 (by decide)).trans f70), ⟨_, _, _, _, ((hk79 3 (by decide)).trans f71)⟩, ((hk79 4 (by decide)).trans f72), ⟨_, _, _, _, f13⟩, ⟨_, _, _, ((hk79 24 (by decide)).trans f73)⟩, ((hk79 95 (by decide)).trans f74), fun i hi => absurd hi (by omega)⟩ ⟨⟨_, _, _, _, _, _, f80⟩, f81, f22⟩ (TXR_0 _ _) (by decide) (by decide)
theorem law_EV {xs : Nat → Int32} {L : Nat} (hL : L ≤ 2048) : EV xs L 23 600000 7302250 M_law 2 (fun _ => .inl (0, 0, .inl (fun _ => 0))) 0 (ev_en [.ref 0] 4) [] (fun _ _ r => r = [.int 1]) := law_body (d := 0) (fun _ => trivial) hL
