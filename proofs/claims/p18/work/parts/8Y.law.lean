abbrev M_L_law : ev_M := M_law
theorem law_in {L j : Nat} (hL : L ≤ 2048) (hj : 4 * j + 4 ≤ L) : ¬ Int32.ofNat L - 4 < nI (4 * j) := by
  rw [Int32.lt_iff_toInt_lt, show Int32.ofNat L - 4 = nI L - nI 4 from rfl, pk_sub_toInt (by omega) (by decide), nI_toInt (by omega)]
  omega
theorem law_out {L j : Nat} (hL : L ≤ 2048 ∧ 4 * j ≤ L + 4) (hj : L < 4 * j + 4) : Int32.ofNat L - 4 < nI (4 * j) := by
  rw [Int32.lt_iff_toInt_lt, show Int32.ofNat L - 4 = nI L - nI 4 from rfl, pk_sub_toInt (by omega) (by decide), nI_toInt (by omega)]
  omega
set_option maxRecDepth 20000 in
set_option maxHeartbeats 4000000 in
theorem law_step {xs : Nat → Int32} {L d kc ks : Nat} {h : ev_H} {n c m t j : Nat} {wr : Int32} {s : Int64} {f g G : Nat → Int32} (hS : SH h) (hI : IC5 n c m t wr s f G h) (hJ : IM5 n c m t wr s g G h) (hX : TXR f g n) (hc : c ≤ 16) (hm : m ≤ 24) (hG : GV c m G) (hL : L ≤ 2048) (hj : 4 * j + 4 ≤ L) (ih : ∀ (h' : ev_H) (n' c' m' t' : Nat) (wr' : Int32) (s' : Int64) (f' g' G' : Nat → Int32), SH h' → IC5 n' c' m' t' wr' s' f' G' h' → IM5 n' c' m' t' wr' s' g' G' h' → TXR f' g' n' → c' ≤ 16 → m' ≤ 24 → GV c' m' G' → EV xs L (d + 23) kc ks M_L_law 434 h' 18 [some (.ref 0), some (.ref 2), some (.ref 420), some (.int (nI (4 * (j + 1))))] [] (fun _ _ r => r = [.int 1])) : EV xs L (d + 23) kc ks M_L_law 434 h 18 [some (.ref 0), some (.ref 2), some (.ref 420), some (.int (nI (4 * j)))] [] (fun _ _ r => r = [.int 1]) := by
  refine r_iload_n rfl dL_law_18 rfl ?_
  refine r_aload_n rfl dL_law_19 rfl ?_
  refine r_slen rfl dL_law_20 ?_
  refine r_iconst (v := 4) rfl dL_law_21 (by decide) ?_
  refine r_isub rfl dL_law_22 ?_
  refine r_icmp_gt (tgt := 789) rfl rfl dL_law_23 (fun zc => absurd zc (law_in hL hj)) (fun _ => ?_)
  refine r_aload_n rfl dL_law_26 rfl ?_
  refine r_iload_n rfl dL_law_27 rfl ?_
  refine r_sld (jn := 4 * j) rfl dL_law_28 (vp_in_nI (n := 4 * j) (by omega) (by omega)) (nI_clamp (n := 4 * j) (by omega)) ?_
  refine r_bipush (v := 31) rfl dL_law_29 (by decide) ?_
  refine r_iand rfl dL_law_31 ?_
  refine r_topi (fun x51 e52 => ?_)
  by_cases c53 : x51.toInt < 0 ∨ 24 < x51.toInt
  · refine r_swO (tgt := 783) dL_law_32 rfl c53 ?_
    refine r_iinc (y := nI (4 * j + 4)) (ls' := [some (.ref 0), some (.ref 2), some (.ref 420), some (.int (nI (4 * j + 4)))]) rfl dL_law_783 rfl (show nI (4 * j) + Int32.ofInt 4 = nI (4 * j + 4) from nI_add (4 * j) 4) (Nat.le_of_ble_eq_true rfl) rfl ?_
    refine r_goto (pc' := 18) rfl dL_law_786 ?_
    rw [show 4 * j + 4 = 4 * (j + 1) by omega]
    exact ih h _ _ _ _ _ _ _ _ _ hS hI hJ hX hc hm hG
  · have c53a : ¬ x51.toInt < 0 := fun z => c53 (Or.inl z)
    have c53b : ¬ 24 < x51.toInt := fun z => c53 (Or.inr z)
    rcases (show x51.toInt = 0 ∨ x51.toInt = 1 ∨ x51.toInt = 2 ∨ x51.toInt = 3 ∨ x51.toInt = 4 ∨ x51.toInt = 5 ∨ x51.toInt = 6 ∨ x51.toInt = 7 ∨ x51.toInt = 8 ∨ x51.toInt = 9 ∨ x51.toInt = 10 ∨ x51.toInt = 11 ∨ x51.toInt = 12 ∨ x51.toInt = 13 ∨ x51.toInt = 14 ∨ x51.toInt = 15 ∨ x51.toInt = 16 ∨ x51.toInt = 17 ∨ x51.toInt = 18 ∨ x51.toInt = 19 ∨ x51.toInt = 20 ∨ x51.toInt = 21 ∨ x51.toInt = 22 ∨ x51.toInt = 23 ∨ x51.toInt = 24 by omega) with c53e | c53e | c53e | c53e | c53e | c53e | c53e | c53e | c53e | c53e | c53e | c53e | c53e | c53e | c53e | c53e | c53e | c53e | c53e | c53e | c53e | c53e | c53e | c53e | c53e
    · refine r_swI (off := 116) (tgt := 148) dL_law_32 rfl c53a c53b (by rw [c53e]; rfl) ?_
      refine r_aload_n rfl dL_law_148 rfl ?_
      refine r_aload_n rfl dL_law_149 rfl ?_
      refine r_iload_n rfl dL_law_150 rfl ?_
      refine r_iconst (v := 1) rfl dL_law_151 (by decide) ?_
      refine r_iadd rfl dL_law_152 ?_
      refine r_eqi (y := nI ((4 * j) + 1)) (show (nI (4 * j)) + 1 = nI ((4 * j) + 1) from nI_add (4 * j) 1) ?_
      refine r_sld (jn := (4 * j) + 1) rfl dL_law_153 (vp_in_nI (n := (4 * j) + 1) (by omega) (by omega)) (nI_clamp (n := (4 * j) + 1) (by omega)) ?_
      refine r_i2l rfl dL_law_154 ?_
      refine r_bipush (v := 32) rfl dL_law_155 (by decide) ?_
      refine r_lshl rfl dL_law_157 ?_
      refine r_aload_n rfl dL_law_158 rfl ?_
      refine r_iload_n rfl dL_law_159 rfl ?_
      refine r_iconst (v := 2) rfl dL_law_160 (by decide) ?_
      refine r_iadd rfl dL_law_161 ?_
      refine r_eqi (y := nI ((4 * j) + 2)) (show (nI (4 * j)) + 2 = nI ((4 * j) + 2) from nI_add (4 * j) 2) ?_
      refine r_sld (jn := (4 * j) + 2) rfl dL_law_162 (vp_in_nI (n := (4 * j) + 2) (by omega) (by omega)) (nI_clamp (n := (4 * j) + 2) (by omega)) ?_
      refine r_i2l rfl dL_law_163 ?_
      refine r_ldc2 (v := 4294967295) rfl dL_law_164 lc_L_13 ?_
      refine r_land rfl dL_law_167 ?_
      refine r_lor rfl dL_law_168 ?_
      refine r_aload_n rfl dL_law_169 rfl ?_
      refine r_iload_n rfl dL_law_170 rfl ?_
      refine r_iconst (v := 3) rfl dL_law_171 (by decide) ?_
      refine r_iadd rfl dL_law_172 ?_
      refine r_eqi (y := nI ((4 * j) + 3)) (show (nI (4 * j)) + 3 = nI ((4 * j) + 3) from nI_add (4 * j) 3) ?_
      refine r_sld (jn := (4 * j) + 3) rfl dL_law_173 (vp_in_nI (n := (4 * j) + 3) (by omega) (by omega)) (nI_clamp (n := (4 * j) + 3) (by omega)) ?_
      obtain ⟨fs60, f59⟩ := hI.o2
      refine cl_L_15 rfl rfl dL_law_174 (by decide) (by decide) f59 (Nat.le_of_ble_eq_true rfl) (k5_type hS hI hX.1 (by omega)) ?_
      rintro _ h54 _ ⟨rfl, hS55, hI56, hk57, rfl⟩
      have hI64 := hJ.ku hk57
      refine r_pop rfl dL_law_177 rfl ?_
      refine r_aload_n rfl dL_law_178 rfl ?_
      refine r_aload_n rfl dL_law_179 rfl ?_
      refine r_iload_n rfl dL_law_180 rfl ?_
      refine r_iconst (v := 1) rfl dL_law_181 (by decide) ?_
      refine r_iadd rfl dL_law_182 ?_
      refine r_eqi (y := nI ((4 * j) + 1)) (show (nI (4 * j)) + 1 = nI ((4 * j) + 1) from nI_add (4 * j) 1) ?_
      refine r_sld (jn := (4 * j) + 1) rfl dL_law_183 (vp_in_nI (n := (4 * j) + 1) (by omega) (by omega)) (nI_clamp (n := (4 * j) + 1) (by omega)) ?_
      refine r_i2l rfl dL_law_184 ?_
      refine r_bipush (v := 32) rfl dL_law_185 (by decide) ?_
      refine r_lshl rfl dL_law_187 ?_
      refine r_aload_n rfl dL_law_188 rfl ?_
      refine r_iload_n rfl dL_law_189 rfl ?_
      refine r_iconst (v := 2) rfl dL_law_190 (by decide) ?_
      refine r_iadd rfl dL_law_191 ?_
      refine r_eqi (y := nI ((4 * j) + 2)) (show (nI (4 * j)) + 2 = nI ((4 * j) + 2) from nI_add (4 * j) 2) ?_
      refine r_sld (jn := (4 * j) + 2) rfl dL_law_192 (vp_in_nI (n := (4 * j) + 2) (by omega) (by omega)) (nI_clamp (n := (4 * j) + 2) (by omega)) ?_
      refine r_i2l rfl dL_law_193 ?_
      refine r_ldc2 (v := 4294967295) rfl dL_law_194 lc_L_13 ?_
      refine r_land rfl dL_law_197 ?_
      refine r_lor rfl dL_law_198 ?_
      refine r_aload_n rfl dL_law_199 rfl ?_
      refine r_iload_n rfl dL_law_200 rfl ?_
      refine r_iconst (v := 3) rfl dL_law_201 (by decide) ?_
      refine r_iadd rfl dL_law_202 ?_
      refine r_eqi (y := nI ((4 * j) + 3)) (show (nI (4 * j)) + 3 = nI ((4 * j) + 3) from nI_add (4 * j) 3) ?_
      refine r_sld (jn := (4 * j) + 3) rfl dL_law_203 (vp_in_nI (n := (4 * j) + 3) (by omega) (by omega)) (nI_clamp (n := (4 * j) + 3) (by omega)) ?_
      obtain ⟨fs72, f71⟩ := hI64.o5
      refine cl_L_19 rfl rfl dL_law_204 (by decide) (by decide) f71 (Nat.le_of_ble_eq_true rfl) (j5_type hS55 hI64 hX.1) ?_
      rintro _ h66 _ ⟨rfl, hS67, hI68, hk69, rfl⟩
      have hI76 := hI56.kd (by omega) hk69
      have hX73 := apb_TX (v := (((xs ((4 * j) + 1) : Int32).toInt64) <<< ((32 : Int32).toInt64 &&& 63)) ||| (((xs ((4 * j) + 2) : Int32).toInt64) &&& 4294967295)) (tyO (xs ((4 * j) + 3)) n) n f g hX (tyO_le (xs ((4 * j) + 3)) n hX.1).2 (tyO_le (xs ((4 * j) + 3)) n hX.1).1
      refine r_pop rfl dL_law_207 rfl ?_
      refine r_goto (pc' := 783) rfl dL_law_208 ?_
      refine r_iinc (y := nI (4 * j + 4)) (ls' := [some (.ref 0), some (.ref 2), some (.ref 420), some (.int (nI (4 * j + 4)))]) rfl dL_law_783 rfl (show nI (4 * j) + Int32.ofInt 4 = nI (4 * j + 4) from nI_add (4 * j) 4) (Nat.le_of_ble_eq_true rfl) rfl ?_
      refine r_goto (pc' := 18) rfl dL_law_786 ?_
      rw [show 4 * j + 4 = 4 * (j + 1) by omega]
      exact ih h66 _ _ _ _ _ _ _ _ _ hS67 hI76 hI68 hX73 hc hm hG
    · refine r_swI (off := 179) (tgt := 211) dL_law_32 rfl c53a c53b (by rw [c53e]; rfl) ?_
      refine r_aload_n rfl dL_law_211 rfl ?_
      obtain ⟨fs84, f83⟩ := hI.o2
      refine cl_L_20 rfl rfl dL_law_212 (by decide) (by decide) f83 (Nat.le_of_ble_eq_true rfl) (k5_clear hS hI hX.1 (by omega)) ?_
      rintro _ h78 _ ⟨rfl, hS79, hI80, hk81, rfl⟩
      have hI88 := hJ.ku hk81
      refine r_pop rfl dL_law_215 rfl ?_
      refine r_aload_n rfl dL_law_216 rfl ?_
      obtain ⟨fs96, f95⟩ := hI88.o5
      refine cl_L_24 rfl rfl dL_law_217 (by decide) (by decide) f95 (Nat.le_of_ble_eq_true rfl) (j5_clear hS79 hI88) ?_
      rintro _ h90 _ ⟨rfl, hS91, hI92, hk93, rfl⟩
      have hI100 := hI80.kd (by omega) hk93
      have hX97 := TXR_0 f g
      refine r_pop rfl dL_law_220 rfl ?_
      refine r_goto (pc' := 783) rfl dL_law_221 ?_
      refine r_iinc (y := nI (4 * j + 4)) (ls' := [some (.ref 0), some (.ref 2), some (.ref 420), some (.int (nI (4 * j + 4)))]) rfl dL_law_783 rfl (show nI (4 * j) + Int32.ofInt 4 = nI (4 * j + 4) from nI_add (4 * j) 4) (Nat.le_of_ble_eq_true rfl) rfl ?_
      refine r_goto (pc' := 18) rfl dL_law_786 ?_
      rw [show 4 * j + 4 = 4 * (j + 1) by omega]
      exact ih h90 _ _ _ _ _ _ _ _ _ hS91 hI100 hI92 hX97 hc hm hG
    · refine r_swI (off := 192) (tgt := 224) dL_law_32 rfl c53a c53b (by rw [c53e]; rfl) ?_
      refine r_aload_n rfl dL_law_224 rfl ?_
      obtain ⟨fs108, f107⟩ := hI.o2
      refine cl_L_25 rfl rfl dL_law_225 (by decide) (by decide) f107 (Nat.le_of_ble_eq_true rfl) (k5_clauses hS hI hX hc hm) ?_
      rintro _ h102 _ ⟨rfl, hS103, hk105, rfl, hI104⟩
      have hI112 := hJ.ku hk105
      refine r_pop rfl dL_law_228 rfl ?_
      refine r_aload_n rfl dL_law_229 rfl ?_
      obtain ⟨fs120, f119⟩ := hI112.o5
      refine cl_L_28 rfl rfl dL_law_230 (by decide) (by decide) f119 (Nat.le_of_ble_eq_true rfl) (j5_clauses hS103 hI112 hX) ?_
      rintro _ h114 _ ⟨rfl, hS115, hk117, rfl, hI116⟩
      obtain ⟨n1, c1, m1, t1, wr1, G1, hI124, hI116b, hX121, hc122, hm123, hG125⟩ := cb_clauses hX hc hm hG hk117 hI104 hI116
      refine r_pop rfl dL_law_233 rfl ?_
      refine r_goto (pc' := 783) rfl dL_law_234 ?_
      refine r_iinc (y := nI (4 * j + 4)) (ls' := [some (.ref 0), some (.ref 2), some (.ref 420), some (.int (nI (4 * j + 4)))]) rfl dL_law_783 rfl (show nI (4 * j) + Int32.ofInt 4 = nI (4 * j + 4) from nI_add (4 * j) 4) (Nat.le_of_ble_eq_true rfl) rfl ?_
      refine r_goto (pc' := 18) rfl dL_law_786 ?_
      rw [show 4 * j + 4 = 4 * (j + 1) by omega]
      exact ih h114 _ _ _ _ _ _ _ _ _ hS115 hI124 hI116b hX121 hc122 hm123 hG125
    · refine r_swI (off := 205) (tgt := 237) dL_law_32 rfl c53a c53b (by rw [c53e]; rfl) ?_
      refine r_aload_n rfl dL_law_237 rfl ?_
      obtain ⟨fs132, f131⟩ := hI.o2
      refine cl_L_29 rfl rfl dL_law_238 (by decide) (by decide) f131 (Nat.le_of_ble_eq_true rfl) (k5_proof hS hI hX hc hm hG) ?_
      rintro _ h126 _ ⟨rfl, hS127, hk129, rfl, hI128⟩
      have hI136 := hJ.ku hk129
      refine r_pop rfl dL_law_241 rfl ?_
      refine r_aload_n rfl dL_law_242 rfl ?_
      obtain ⟨fs144, f143⟩ := hI136.o5
      refine cl_L_32 rfl rfl dL_law_243 (by decide) (by decide) f143 (Nat.le_of_ble_eq_true rfl) (j5_proof hS127 hI136 hX hc hG) ?_
      rintro _ h138 _ ⟨rfl, hS139, hk141, rfl, hI140⟩
      obtain ⟨n1, c1, m1, t1, wr1, G1, hI148, hI140b, hX145, hc146, hm147, hG149⟩ := cb_proof hX hc hm hG hk141 hI128 hI140
      refine r_pop rfl dL_law_246 rfl ?_
      refine r_goto (pc' := 783) rfl dL_law_247 ?_
      refine r_iinc (y := nI (4 * j + 4)) (ls' := [some (.ref 0), some (.ref 2), some (.ref 420), some (.int (nI (4 * j + 4)))]) rfl dL_law_783 rfl (show nI (4 * j) + Int32.ofInt 4 = nI (4 * j + 4) from nI_add (4 * j) 4) (Nat.le_of_ble_eq_true rfl) rfl ?_
      refine r_goto (pc' := 18) rfl dL_law_786 ?_
      rw [show 4 * j + 4 = 4 * (j + 1) by omega]
      exact ih h138 _ _ _ _ _ _ _ _ _ hS139 hI148 hI140b hX145 hc146 hm147 hG149
    · refine r_swI (off := 218) (tgt := 250) dL_law_32 rfl c53a c53b (by rw [c53e]; rfl) ?_
      refine r_aload_n rfl dL_law_250 rfl ?_
      obtain ⟨fs156, f155⟩ := hI.o2
      refine cl_L_33 rfl rfl dL_law_251 (by decide) (by decide) f155 (Nat.le_of_ble_eq_true rfl) (k5_wrong hS hI hc hm) ?_
      rintro _ h150 _ ⟨rfl, hS151, hI152, hk153, rfl⟩
      have hI160 := hJ.ku hk153
      refine r_pop rfl dL_law_254 rfl ?_
      refine r_aload_n rfl dL_law_255 rfl ?_
      obtain ⟨fs168, f167⟩ := hI160.o5
      refine cl_L_36 rfl rfl dL_law_256 (by decide) (by decide) f167 (Nat.le_of_ble_eq_true rfl) (j5_wrong hS151 hI160 hc hm) ?_
      rintro _ h162 _ ⟨rfl, hS163, hI164, hk165, rfl⟩
      have hI172 := hI152.kd (by omega) hk165
      refine r_pop rfl dL_law_259 rfl ?_
      refine r_goto (pc' := 783) rfl dL_law_260 ?_
      refine r_iinc (y := nI (4 * j + 4)) (ls' := [some (.ref 0), some (.ref 2), some (.ref 420), some (.int (nI (4 * j + 4)))]) rfl dL_law_783 rfl (show nI (4 * j) + Int32.ofInt 4 = nI (4 * j + 4) from nI_add (4 * j) 4) (Nat.le_of_ble_eq_true rfl) rfl ?_
      refine r_goto (pc' := 18) rfl dL_law_786 ?_
      rw [show 4 * j + 4 = 4 * (j + 1) by omega]
      exact ih h162 _ _ _ _ _ _ _ _ _ hS163 hI172 hI164 hX hc hm hG
    · refine r_swI (off := 231) (tgt := 263) dL_law_32 rfl c53a c53b (by rw [c53e]; rfl) ?_
      refine r_aload_n rfl dL_law_263 rfl ?_
      obtain ⟨fs180, f179⟩ := hI.o2
      refine cl_L_37 rfl rfl dL_law_264 (by decide) (by decide) f179 (Nat.le_of_ble_eq_true rfl) (k5_end hS hI hc hm hG) ?_
      rintro _ h174 _ ⟨rfl, hS175, hI176, hk177, rfl⟩
      have hI184 := hJ.ku hk177
      refine r_pop rfl dL_law_267 rfl ?_
      refine r_aload_n rfl dL_law_268 rfl ?_
      obtain ⟨fs192, f191⟩ := hI184.o5
      refine cl_L_40 rfl rfl dL_law_269 (by decide) (by decide) f191 (Nat.le_of_ble_eq_true rfl) (j5_end hS175 hI184 hc hm) ?_
      rintro _ h186 _ ⟨rfl, hS187, hI188, hk189, rfl⟩
      have hI196 := hI176.kd (by omega) hk189
      refine r_pop rfl dL_law_272 rfl ?_
      refine r_goto (pc' := 783) rfl dL_law_273 ?_
      refine r_iinc (y := nI (4 * j + 4)) (ls' := [some (.ref 0), some (.ref 2), some (.ref 420), some (.int (nI (4 * j + 4)))]) rfl dL_law_783 rfl (show nI (4 * j) + Int32.ofInt 4 = nI (4 * j + 4) from nI_add (4 * j) 4) (Nat.le_of_ble_eq_true rfl) rfl ?_
      refine r_goto (pc' := 18) rfl dL_law_786 ?_
      rw [show 4 * j + 4 = 4 * (j + 1) by omega]
      exact ih h186 _ _ _ _ _ _ _ _ _ hS187 hI196 hI188 hX hc hm hG
    · refine r_swI (off := 244) (tgt := 276) dL_law_32 rfl c53a c53b (by rw [c53e]; rfl) ?_
      refine r_aload_n rfl dL_law_276 rfl ?_
      refine r_aload_n rfl dL_law_277 rfl ?_
      refine r_iload_n rfl dL_law_278 rfl ?_
      refine r_iconst (v := 1) rfl dL_law_279 (by decide) ?_
      refine r_iadd rfl dL_law_280 ?_
      refine r_eqi (y := nI ((4 * j) + 1)) (show (nI (4 * j)) + 1 = nI ((4 * j) + 1) from nI_add (4 * j) 1) ?_
      refine r_sld (jn := (4 * j) + 1) rfl dL_law_281 (vp_in_nI (n := (4 * j) + 1) (by omega) (by omega)) (nI_clamp (n := (4 * j) + 1) (by omega)) ?_
      refine r_aload_n rfl dL_law_282 rfl ?_
      refine r_iload_n rfl dL_law_283 rfl ?_
      refine r_iconst (v := 2) rfl dL_law_284 (by decide) ?_
      refine r_iadd rfl dL_law_285 ?_
      refine r_eqi (y := nI ((4 * j) + 2)) (show (nI (4 * j)) + 2 = nI ((4 * j) + 2) from nI_add (4 * j) 2) ?_
      refine r_sld (jn := (4 * j) + 2) rfl dL_law_286 (vp_in_nI (n := (4 * j) + 2) (by omega) (by omega)) (nI_clamp (n := (4 * j) + 2) (by omega)) ?_
      obtain ⟨fs204, f203⟩ := hI.o2
      refine cl_L_41 rfl rfl dL_law_287 (by decide) (by decide) f203 (Nat.le_of_ble_eq_true rfl) (k5_line hS hI hc hm) ?_
      rintro _ h198 _ ⟨rfl, hS199, hI200, hk201, rfl⟩
      have hI208 := hJ.ku hk201
      refine r_pop rfl dL_law_290 rfl ?_
      refine r_aload_n rfl dL_law_291 rfl ?_
      refine r_aload_n rfl dL_law_292 rfl ?_
      refine r_iload_n rfl dL_law_293 rfl ?_
      refine r_iconst (v := 1) rfl dL_law_294 (by decide) ?_
      refine r_iadd rfl dL_law_295 ?_
      refine r_eqi (y := nI ((4 * j) + 1)) (show (nI (4 * j)) + 1 = nI ((4 * j) + 1) from nI_add (4 * j) 1) ?_
      refine r_sld (jn := (4 * j) + 1) rfl dL_law_296 (vp_in_nI (n := (4 * j) + 1) (by omega) (by omega)) (nI_clamp (n := (4 * j) + 1) (by omega)) ?_
      refine r_aload_n rfl dL_law_297 rfl ?_
      refine r_iload_n rfl dL_law_298 rfl ?_
      refine r_iconst (v := 2) rfl dL_law_299 (by decide) ?_
      refine r_iadd rfl dL_law_300 ?_
      refine r_eqi (y := nI ((4 * j) + 2)) (show (nI (4 * j)) + 2 = nI ((4 * j) + 2) from nI_add (4 * j) 2) ?_
      refine r_sld (jn := (4 * j) + 2) rfl dL_law_301 (vp_in_nI (n := (4 * j) + 2) (by omega) (by omega)) (nI_clamp (n := (4 * j) + 2) (by omega)) ?_
      obtain ⟨fs216, f215⟩ := hI208.o5
      refine cl_L_45 rfl rfl dL_law_302 (by decide) (by decide) f215 (Nat.le_of_ble_eq_true rfl) (j5_line hS199 hI208 hc hm) ?_
      rintro _ h210 _ ⟨rfl, hS211, hI212, hk213, rfl⟩
      have hI220 := hI200.kd (by omega) hk213
      refine r_pop rfl dL_law_305 rfl ?_
      refine r_goto (pc' := 783) rfl dL_law_306 ?_
      refine r_iinc (y := nI (4 * j + 4)) (ls' := [some (.ref 0), some (.ref 2), some (.ref 420), some (.int (nI (4 * j + 4)))]) rfl dL_law_783 rfl (show nI (4 * j) + Int32.ofInt 4 = nI (4 * j + 4) from nI_add (4 * j) 4) (Nat.le_of_ble_eq_true rfl) rfl ?_
      refine r_goto (pc' := 18) rfl dL_law_786 ?_
      rw [show 4 * j + 4 = 4 * (j + 1) by omega]
      exact ih h210 _ _ _ _ _ _ _ _ _ hS211 hI220 hI212 hX hc hm hG
    · refine r_swI (off := 277) (tgt := 309) dL_law_32 rfl c53a c53b (by rw [c53e]; rfl) ?_
      refine r_aload_n rfl dL_law_309 rfl ?_
      refine r_aload_n rfl dL_law_310 rfl ?_
      refine r_iload_n rfl dL_law_311 rfl ?_
      refine r_iconst (v := 1) rfl dL_law_312 (by decide) ?_
      refine r_iadd rfl dL_law_313 ?_
      refine r_eqi (y := nI ((4 * j) + 1)) (show (nI (4 * j)) + 1 = nI ((4 * j) + 1) from nI_add (4 * j) 1) ?_
      refine r_sld (jn := (4 * j) + 1) rfl dL_law_314 (vp_in_nI (n := (4 * j) + 1) (by omega) (by omega)) (nI_clamp (n := (4 * j) + 1) (by omega)) ?_
      obtain ⟨fs228, f227⟩ := hI.o2
      refine cl_L_46 rfl rfl dL_law_315 (by decide) (by decide) f227 (Nat.le_of_ble_eq_true rfl) (k5_side hS hI hc hm hG) ?_
      rintro _ h222 _ ⟨rfl, hS223, hI224, hk225, rfl⟩
      have hI232 := hJ.ku hk225
      refine r_pop rfl dL_law_318 rfl ?_
      refine r_aload_n rfl dL_law_319 rfl ?_
      refine r_aload_n rfl dL_law_320 rfl ?_
      refine r_iload_n rfl dL_law_321 rfl ?_
      refine r_iconst (v := 1) rfl dL_law_322 (by decide) ?_
      refine r_iadd rfl dL_law_323 ?_
      refine r_eqi (y := nI ((4 * j) + 1)) (show (nI (4 * j)) + 1 = nI ((4 * j) + 1) from nI_add (4 * j) 1) ?_
      refine r_sld (jn := (4 * j) + 1) rfl dL_law_324 (vp_in_nI (n := (4 * j) + 1) (by omega) (by omega)) (nI_clamp (n := (4 * j) + 1) (by omega)) ?_
      obtain ⟨fs240, f239⟩ := hI232.o5
      refine cl_L_50 rfl rfl dL_law_325 (by decide) (by decide) f239 (Nat.le_of_ble_eq_true rfl) (j5_side hS223 hI232 hc hm) ?_
      rintro _ h234 _ ⟨rfl, hS235, hI236, hk237, rfl⟩
      have hI244 := hI224.kd (by omega) hk237
      refine r_pop rfl dL_law_328 rfl ?_
      refine r_goto (pc' := 783) rfl dL_law_329 ?_
      refine r_iinc (y := nI (4 * j + 4)) (ls' := [some (.ref 0), some (.ref 2), some (.ref 420), some (.int (nI (4 * j + 4)))]) rfl dL_law_783 rfl (show nI (4 * j) + Int32.ofInt 4 = nI (4 * j + 4) from nI_add (4 * j) 4) (Nat.le_of_ble_eq_true rfl) rfl ?_
      refine r_goto (pc' := 18) rfl dL_law_786 ?_
      rw [show 4 * j + 4 = 4 * (j + 1) by omega]
      exact ih h234 _ _ _ _ _ _ _ _ _ hS235 hI244 hI236 hX hc hm hG
    · refine r_swI (off := 300) (tgt := 332) dL_law_32 rfl c53a c53b (by rw [c53e]; rfl) ?_
      refine r_aload_n rfl dL_law_332 rfl ?_
      refine r_aload_n rfl dL_law_333 rfl ?_
      refine r_iload_n rfl dL_law_334 rfl ?_
      refine r_iconst (v := 1) rfl dL_law_335 (by decide) ?_
      refine r_iadd rfl dL_law_336 ?_
      refine r_eqi (y := nI ((4 * j) + 1)) (show (nI (4 * j)) + 1 = nI ((4 * j) + 1) from nI_add (4 * j) 1) ?_
      refine r_sld (jn := (4 * j) + 1) rfl dL_law_337 (vp_in_nI (n := (4 * j) + 1) (by omega) (by omega)) (nI_clamp (n := (4 * j) + 1) (by omega)) ?_
      refine r_aload_n rfl dL_law_338 rfl ?_
      refine r_iload_n rfl dL_law_339 rfl ?_
      refine r_iconst (v := 2) rfl dL_law_340 (by decide) ?_
      refine r_iadd rfl dL_law_341 ?_
      refine r_eqi (y := nI ((4 * j) + 2)) (show (nI (4 * j)) + 2 = nI ((4 * j) + 2) from nI_add (4 * j) 2) ?_
      refine r_sld (jn := (4 * j) + 2) rfl dL_law_342 (vp_in_nI (n := (4 * j) + 2) (by omega) (by omega)) (nI_clamp (n := (4 * j) + 2) (by omega)) ?_
      obtain ⟨fs252, f251⟩ := hI.o2
      refine cl_L_51 rfl rfl dL_law_343 (by decide) (by decide) f251 (Nat.le_of_ble_eq_true rfl) (k5_holds hS hI hc hm) ?_
      rintro _ h246 _ ⟨rfl, hS247, hI248, hk249, rfl⟩
      have hI256 := hJ.ku hk249
      refine r_pop rfl dL_law_346 rfl ?_
      refine r_aload_n rfl dL_law_347 rfl ?_
      refine r_aload_n rfl dL_law_348 rfl ?_
      refine r_iload_n rfl dL_law_349 rfl ?_
      refine r_iconst (v := 1) rfl dL_law_350 (by decide) ?_
      refine r_iadd rfl dL_law_351 ?_
      refine r_eqi (y := nI ((4 * j) + 1)) (show (nI (4 * j)) + 1 = nI ((4 * j) + 1) from nI_add (4 * j) 1) ?_
      refine r_sld (jn := (4 * j) + 1) rfl dL_law_352 (vp_in_nI (n := (4 * j) + 1) (by omega) (by omega)) (nI_clamp (n := (4 * j) + 1) (by omega)) ?_
      refine r_aload_n rfl dL_law_353 rfl ?_
      refine r_iload_n rfl dL_law_354 rfl ?_
      refine r_iconst (v := 2) rfl dL_law_355 (by decide) ?_
      refine r_iadd rfl dL_law_356 ?_
      refine r_eqi (y := nI ((4 * j) + 2)) (show (nI (4 * j)) + 2 = nI ((4 * j) + 2) from nI_add (4 * j) 2) ?_
      refine r_sld (jn := (4 * j) + 2) rfl dL_law_357 (vp_in_nI (n := (4 * j) + 2) (by omega) (by omega)) (nI_clamp (n := (4 * j) + 2) (by omega)) ?_
      obtain ⟨fs264, f263⟩ := hI256.o5
      refine cl_L_54 rfl rfl dL_law_358 (by decide) (by decide) f263 (Nat.le_of_ble_eq_true rfl) (j5_holds hS247 hI256 hc hm) ?_
      rintro _ h258 _ ⟨rfl, hS259, hI260, hk261, rfl⟩
      have hI268 := hI248.kd (by omega) hk261
      refine r_pop rfl dL_law_361 rfl ?_
      refine r_goto (pc' := 783) rfl dL_law_362 ?_
      refine r_iinc (y := nI (4 * j + 4)) (ls' := [some (.ref 0), some (.ref 2), some (.ref 420), some (.int (nI (4 * j + 4)))]) rfl dL_law_783 rfl (show nI (4 * j) + Int32.ofInt 4 = nI (4 * j + 4) from nI_add (4 * j) 4) (Nat.le_of_ble_eq_true rfl) rfl ?_
      refine r_goto (pc' := 18) rfl dL_law_786 ?_
      rw [show 4 * j + 4 = 4 * (j + 1) by omega]
      exact ih h258 _ _ _ _ _ _ _ _ _ hS259 hI268 hI260 hX hc hm hG
    · refine r_swI (off := 333) (tgt := 365) dL_law_32 rfl c53a c53b (by rw [c53e]; rfl) ?_
      refine r_aload_n rfl dL_law_365 rfl ?_
      refine r_aload_n rfl dL_law_366 rfl ?_
      refine r_iload_n rfl dL_law_367 rfl ?_
      refine r_iconst (v := 1) rfl dL_law_368 (by decide) ?_
      refine r_iadd rfl dL_law_369 ?_
      refine r_eqi (y := nI ((4 * j) + 1)) (show (nI (4 * j)) + 1 = nI ((4 * j) + 1) from nI_add (4 * j) 1) ?_
      refine r_sld (jn := (4 * j) + 1) rfl dL_law_370 (vp_in_nI (n := (4 * j) + 1) (by omega) (by omega)) (nI_clamp (n := (4 * j) + 1) (by omega)) ?_
      obtain ⟨fs276, f275⟩ := hI.o2
      refine cl_L_55 rfl rfl dL_law_371 (by decide) (by decide) f275 (Nat.le_of_ble_eq_true rfl) (k5_worlds hS hI hc hm) ?_
      rintro _ h270 _ ⟨rfl, hS271, hI272, hk273, rfl⟩
      have hI280 := hJ.ku hk273
      refine r_pop rfl dL_law_374 rfl ?_
      refine r_aload_n rfl dL_law_375 rfl ?_
      refine r_aload_n rfl dL_law_376 rfl ?_
      refine r_iload_n rfl dL_law_377 rfl ?_
      refine r_iconst (v := 1) rfl dL_law_378 (by decide) ?_
      refine r_iadd rfl dL_law_379 ?_
      refine r_eqi (y := nI ((4 * j) + 1)) (show (nI (4 * j)) + 1 = nI ((4 * j) + 1) from nI_add (4 * j) 1) ?_
      refine r_sld (jn := (4 * j) + 1) rfl dL_law_380 (vp_in_nI (n := (4 * j) + 1) (by omega) (by omega)) (nI_clamp (n := (4 * j) + 1) (by omega)) ?_
      obtain ⟨fs288, f287⟩ := hI280.o5
      refine cl_L_58 rfl rfl dL_law_381 (by decide) (by decide) f287 (Nat.le_of_ble_eq_true rfl) (j5_worlds hS271 hI280 hc hm hG) ?_
      rintro _ h282 _ ⟨rfl, hS283, hI284, hk285, rfl⟩
      have hI292 := hI272.kd (by omega) hk285
      refine r_pop rfl dL_law_384 rfl ?_
      refine r_goto (pc' := 783) rfl dL_law_385 ?_
      refine r_iinc (y := nI (4 * j + 4)) (ls' := [some (.ref 0), some (.ref 2), some (.ref 420), some (.int (nI (4 * j + 4)))]) rfl dL_law_783 rfl (show nI (4 * j) + Int32.ofInt 4 = nI (4 * j + 4) from nI_add (4 * j) 4) (Nat.le_of_ble_eq_true rfl) rfl ?_
      refine r_goto (pc' := 18) rfl dL_law_786 ?_
      rw [show 4 * j + 4 = 4 * (j + 1) by omega]
      exact ih h282 _ _ _ _ _ _ _ _ _ hS283 hI292 hI284 hX hc hm hG
    · refine r_swI (off := 356) (tgt := 388) dL_law_32 rfl c53a c53b (by rw [c53e]; rfl) ?_
      refine r_aload_n rfl dL_law_388 rfl ?_
      refine r_aload_n rfl dL_law_389 rfl ?_
      refine r_iload_n rfl dL_law_390 rfl ?_
      refine r_iconst (v := 1) rfl dL_law_391 (by decide) ?_
      refine r_iadd rfl dL_law_392 ?_
      refine r_eqi (y := nI ((4 * j) + 1)) (show (nI (4 * j)) + 1 = nI ((4 * j) + 1) from nI_add (4 * j) 1) ?_
      refine r_sld (jn := (4 * j) + 1) rfl dL_law_393 (vp_in_nI (n := (4 * j) + 1) (by omega) (by omega)) (nI_clamp (n := (4 * j) + 1) (by omega)) ?_
      refine r_aload_n rfl dL_law_394 rfl ?_
      refine r_iload_n rfl dL_law_395 rfl ?_
      refine r_iconst (v := 2) rfl dL_law_396 (by decide) ?_
      refine r_iadd rfl dL_law_397 ?_
      refine r_eqi (y := nI ((4 * j) + 2)) (show (nI (4 * j)) + 2 = nI ((4 * j) + 2) from nI_add (4 * j) 2) ?_
      refine r_sld (jn := (4 * j) + 2) rfl dL_law_398 (vp_in_nI (n := (4 * j) + 2) (by omega) (by omega)) (nI_clamp (n := (4 * j) + 2) (by omega)) ?_
      refine r_aload_n rfl dL_law_399 rfl ?_
      refine r_iload_n rfl dL_law_400 rfl ?_
      refine r_iconst (v := 3) rfl dL_law_401 (by decide) ?_
      refine r_iadd rfl dL_law_402 ?_
      refine r_eqi (y := nI ((4 * j) + 3)) (show (nI (4 * j)) + 3 = nI ((4 * j) + 3) from nI_add (4 * j) 3) ?_
      refine r_sld (jn := (4 * j) + 3) rfl dL_law_403 (vp_in_nI (n := (4 * j) + 3) (by omega) (by omega)) (nI_clamp (n := (4 * j) + 3) (by omega)) ?_
      obtain ⟨fs300, f299⟩ := hI.o2
      refine cl_L_59 rfl rfl dL_law_404 (by decide) (by decide) f299 (Nat.le_of_ble_eq_true rfl) (k5_says hS hI hc hm hG) ?_
      rintro _ h294 _ ⟨rfl, hS295, hI296, hk297, rfl⟩
      have hI304 := hJ.ku hk297
      refine r_pop rfl dL_law_407 rfl ?_
      refine r_aload_n rfl dL_law_408 rfl ?_
      refine r_aload_n rfl dL_law_409 rfl ?_
      refine r_iload_n rfl dL_law_410 rfl ?_
      refine r_iconst (v := 1) rfl dL_law_411 (by decide) ?_
      refine r_iadd rfl dL_law_412 ?_
      refine r_eqi (y := nI ((4 * j) + 1)) (show (nI (4 * j)) + 1 = nI ((4 * j) + 1) from nI_add (4 * j) 1) ?_
      refine r_sld (jn := (4 * j) + 1) rfl dL_law_413 (vp_in_nI (n := (4 * j) + 1) (by omega) (by omega)) (nI_clamp (n := (4 * j) + 1) (by omega)) ?_
      refine r_aload_n rfl dL_law_414 rfl ?_
      refine r_iload_n rfl dL_law_415 rfl ?_
      refine r_iconst (v := 2) rfl dL_law_416 (by decide) ?_
      refine r_iadd rfl dL_law_417 ?_
      refine r_eqi (y := nI ((4 * j) + 2)) (show (nI (4 * j)) + 2 = nI ((4 * j) + 2) from nI_add (4 * j) 2) ?_
      refine r_sld (jn := (4 * j) + 2) rfl dL_law_418 (vp_in_nI (n := (4 * j) + 2) (by omega) (by omega)) (nI_clamp (n := (4 * j) + 2) (by omega)) ?_
      refine r_aload_n rfl dL_law_419 rfl ?_
      refine r_iload_n rfl dL_law_420 rfl ?_
      refine r_iconst (v := 3) rfl dL_law_421 (by decide) ?_
      refine r_iadd rfl dL_law_422 ?_
      refine r_eqi (y := nI ((4 * j) + 3)) (show (nI (4 * j)) + 3 = nI ((4 * j) + 3) from nI_add (4 * j) 3) ?_
      refine r_sld (jn := (4 * j) + 3) rfl dL_law_423 (vp_in_nI (n := (4 * j) + 3) (by omega) (by omega)) (nI_clamp (n := (4 * j) + 3) (by omega)) ?_
      obtain ⟨fs312, f311⟩ := hI304.o5
      refine cl_L_63 rfl rfl dL_law_424 (by decide) (by decide) f311 (Nat.le_of_ble_eq_true rfl) (j5_says hS295 hI304 hc hm hG) ?_
      rintro _ h306 _ ⟨rfl, hS307, hI308, hk309, rfl⟩
      have hI316 := hI296.kd (by omega) hk309
      refine r_pop rfl dL_law_427 rfl ?_
      refine r_goto (pc' := 783) rfl dL_law_428 ?_
      refine r_iinc (y := nI (4 * j + 4)) (ls' := [some (.ref 0), some (.ref 2), some (.ref 420), some (.int (nI (4 * j + 4)))]) rfl dL_law_783 rfl (show nI (4 * j) + Int32.ofInt 4 = nI (4 * j + 4) from nI_add (4 * j) 4) (Nat.le_of_ble_eq_true rfl) rfl ?_
      refine r_goto (pc' := 18) rfl dL_law_786 ?_
      rw [show 4 * j + 4 = 4 * (j + 1) by omega]
      exact ih h306 _ _ _ _ _ _ _ _ _ hS307 hI316 hI308 hX hc hm hG
    · refine r_swI (off := 399) (tgt := 431) dL_law_32 rfl c53a c53b (by rw [c53e]; rfl) ?_
      refine r_aload_n rfl dL_law_431 rfl ?_
      refine r_aload_n rfl dL_law_432 rfl ?_
      refine r_iload_n rfl dL_law_433 rfl ?_
      refine r_iconst (v := 1) rfl dL_law_434 (by decide) ?_
      refine r_iadd rfl dL_law_435 ?_
      refine r_eqi (y := nI ((4 * j) + 1)) (show (nI (4 * j)) + 1 = nI ((4 * j) + 1) from nI_add (4 * j) 1) ?_
      refine r_sld (jn := (4 * j) + 1) rfl dL_law_436 (vp_in_nI (n := (4 * j) + 1) (by omega) (by omega)) (nI_clamp (n := (4 * j) + 1) (by omega)) ?_
      refine r_aload_n rfl dL_law_437 rfl ?_
      refine r_iload_n rfl dL_law_438 rfl ?_
      refine r_iconst (v := 2) rfl dL_law_439 (by decide) ?_
      refine r_iadd rfl dL_law_440 ?_
      refine r_eqi (y := nI ((4 * j) + 2)) (show (nI (4 * j)) + 2 = nI ((4 * j) + 2) from nI_add (4 * j) 2) ?_
      refine r_sld (jn := (4 * j) + 2) rfl dL_law_441 (vp_in_nI (n := (4 * j) + 2) (by omega) (by omega)) (nI_clamp (n := (4 * j) + 2) (by omega)) ?_
      obtain ⟨fs324, f323⟩ := hI.o2
      refine cl_L_64 rfl rfl dL_law_442 (by decide) (by decide) f323 (Nat.le_of_ble_eq_true rfl) (k5_saying hS hI hc hm hG) ?_
      rintro _ h318 _ ⟨rfl, hS319, hI320, hk321, rfl⟩
      have hI328 := hJ.ku hk321
      refine r_pop2 rfl dL_law_445 rfl ?_
      refine r_aload_n rfl dL_law_446 rfl ?_
      refine r_aload_n rfl dL_law_447 rfl ?_
      refine r_iload_n rfl dL_law_448 rfl ?_
      refine r_iconst (v := 1) rfl dL_law_449 (by decide) ?_
      refine r_iadd rfl dL_law_450 ?_
      refine r_eqi (y := nI ((4 * j) + 1)) (show (nI (4 * j)) + 1 = nI ((4 * j) + 1) from nI_add (4 * j) 1) ?_
      refine r_sld (jn := (4 * j) + 1) rfl dL_law_451 (vp_in_nI (n := (4 * j) + 1) (by omega) (by omega)) (nI_clamp (n := (4 * j) + 1) (by omega)) ?_
      refine r_aload_n rfl dL_law_452 rfl ?_
      refine r_iload_n rfl dL_law_453 rfl ?_
      refine r_iconst (v := 2) rfl dL_law_454 (by decide) ?_
      refine r_iadd rfl dL_law_455 ?_
      refine r_eqi (y := nI ((4 * j) + 2)) (show (nI (4 * j)) + 2 = nI ((4 * j) + 2) from nI_add (4 * j) 2) ?_
      refine r_sld (jn := (4 * j) + 2) rfl dL_law_456 (vp_in_nI (n := (4 * j) + 2) (by omega) (by omega)) (nI_clamp (n := (4 * j) + 2) (by omega)) ?_
      obtain ⟨fs336, f335⟩ := hI328.o5
      refine cl_L_68 rfl rfl dL_law_457 (by decide) (by decide) f335 (Nat.le_of_ble_eq_true rfl) (j5_saying hS319 hI328 hc hm hG) ?_
      rintro _ h330 _ ⟨rfl, hS331, hI332, hk333, rfl⟩
      have hI340 := hI320.kd (by omega) hk333
      refine r_pop2 rfl dL_law_460 rfl ?_
      refine r_goto (pc' := 783) rfl dL_law_461 ?_
      refine r_iinc (y := nI (4 * j + 4)) (ls' := [some (.ref 0), some (.ref 2), some (.ref 420), some (.int (nI (4 * j + 4)))]) rfl dL_law_783 rfl (show nI (4 * j) + Int32.ofInt 4 = nI (4 * j + 4) from nI_add (4 * j) 4) (Nat.le_of_ble_eq_true rfl) rfl ?_
      refine r_goto (pc' := 18) rfl dL_law_786 ?_
      rw [show 4 * j + 4 = 4 * (j + 1) by omega]
      exact ih h330 _ _ _ _ _ _ _ _ _ hS331 hI340 hI332 hX hc hm hG
    · refine r_swI (off := 432) (tgt := 464) dL_law_32 rfl c53a c53b (by rw [c53e]; rfl) ?_
      refine r_aload_n rfl dL_law_464 rfl ?_
      refine r_aload_n rfl dL_law_465 rfl ?_
      refine r_iload_n rfl dL_law_466 rfl ?_
      refine r_iconst (v := 1) rfl dL_law_467 (by decide) ?_
      refine r_iadd rfl dL_law_468 ?_
      refine r_eqi (y := nI ((4 * j) + 1)) (show (nI (4 * j)) + 1 = nI ((4 * j) + 1) from nI_add (4 * j) 1) ?_
      refine r_sld (jn := (4 * j) + 1) rfl dL_law_469 (vp_in_nI (n := (4 * j) + 1) (by omega) (by omega)) (nI_clamp (n := (4 * j) + 1) (by omega)) ?_
      obtain ⟨fs348, f347⟩ := hI.o2
      refine cl_L_69 rfl rfl dL_law_470 (by decide) (by decide) f347 (Nat.le_of_ble_eq_true rfl) (k5_between hS hI hc hm hG) ?_
      rintro _ h342 _ ⟨rfl, hS343, hI344, hk345, rfl⟩
      have hI352 := hJ.ku hk345
      refine r_pop rfl dL_law_473 rfl ?_
      refine r_aload_n rfl dL_law_474 rfl ?_
      refine r_aload_n rfl dL_law_475 rfl ?_
      refine r_iload_n rfl dL_law_476 rfl ?_
      refine r_iconst (v := 1) rfl dL_law_477 (by decide) ?_
      refine r_iadd rfl dL_law_478 ?_
      refine r_eqi (y := nI ((4 * j) + 1)) (show (nI (4 * j)) + 1 = nI ((4 * j) + 1) from nI_add (4 * j) 1) ?_
      refine r_sld (jn := (4 * j) + 1) rfl dL_law_479 (vp_in_nI (n := (4 * j) + 1) (by omega) (by omega)) (nI_clamp (n := (4 * j) + 1) (by omega)) ?_
      obtain ⟨fs360, f359⟩ := hI352.o5
      refine cl_L_72 rfl rfl dL_law_480 (by decide) (by decide) f359 (Nat.le_of_ble_eq_true rfl) (j5_between hS343 hI352 hc hm hG) ?_
      rintro _ h354 _ ⟨rfl, hS355, hI356, hk357, rfl⟩
      have hI364 := hI344.kd (by omega) hk357
      refine r_pop rfl dL_law_483 rfl ?_
      refine r_goto (pc' := 783) rfl dL_law_484 ?_
      refine r_iinc (y := nI (4 * j + 4)) (ls' := [some (.ref 0), some (.ref 2), some (.ref 420), some (.int (nI (4 * j + 4)))]) rfl dL_law_783 rfl (show nI (4 * j) + Int32.ofInt 4 = nI (4 * j + 4) from nI_add (4 * j) 4) (Nat.le_of_ble_eq_true rfl) rfl ?_
      refine r_goto (pc' := 18) rfl dL_law_786 ?_
      rw [show 4 * j + 4 = 4 * (j + 1) by omega]
      exact ih h354 _ _ _ _ _ _ _ _ _ hS355 hI364 hI356 hX hc hm hG
    · refine r_swI (off := 455) (tgt := 487) dL_law_32 rfl c53a c53b (by rw [c53e]; rfl) ?_
      refine r_aload_n rfl dL_law_487 rfl ?_
      refine r_aload_n rfl dL_law_488 rfl ?_
      refine r_iload_n rfl dL_law_489 rfl ?_
      refine r_iconst (v := 1) rfl dL_law_490 (by decide) ?_
      refine r_iadd rfl dL_law_491 ?_
      refine r_eqi (y := nI ((4 * j) + 1)) (show (nI (4 * j)) + 1 = nI ((4 * j) + 1) from nI_add (4 * j) 1) ?_
      refine r_sld (jn := (4 * j) + 1) rfl dL_law_492 (vp_in_nI (n := (4 * j) + 1) (by omega) (by omega)) (nI_clamp (n := (4 * j) + 1) (by omega)) ?_
      obtain ⟨fs372, f371⟩ := hI.o2
      refine cl_L_73 rfl rfl dL_law_493 (by decide) (by decide) f371 (Nat.le_of_ble_eq_true rfl) (k5_looks hS hI hc hm) ?_
      rintro _ h366 _ ⟨rfl, hS367, hI368, hk369, x370, rfl⟩
      have hI376 := hJ.ku hk369
      refine r_pop rfl dL_law_496 rfl ?_
      refine r_aload_n rfl dL_law_497 rfl ?_
      refine r_aload_n rfl dL_law_498 rfl ?_
      refine r_iload_n rfl dL_law_499 rfl ?_
      refine r_iconst (v := 1) rfl dL_law_500 (by decide) ?_
      refine r_iadd rfl dL_law_501 ?_
      refine r_eqi (y := nI ((4 * j) + 1)) (show (nI (4 * j)) + 1 = nI ((4 * j) + 1) from nI_add (4 * j) 1) ?_
      refine r_sld (jn := (4 * j) + 1) rfl dL_law_502 (vp_in_nI (n := (4 * j) + 1) (by omega) (by omega)) (nI_clamp (n := (4 * j) + 1) (by omega)) ?_
      obtain ⟨fs384, f383⟩ := hI376.o5
      refine cl_L_76 rfl rfl dL_law_503 (by decide) (by decide) f383 (Nat.le_of_ble_eq_true rfl) (j5_looks hS367 hI376 hc hm) ?_
      rintro _ h378 _ ⟨rfl, hS379, hI380, hk381, x382, rfl⟩
      have hI388 := hI368.kd (by omega) hk381
      refine r_pop rfl dL_law_506 rfl ?_
      refine r_goto (pc' := 783) rfl dL_law_507 ?_
      refine r_iinc (y := nI (4 * j + 4)) (ls' := [some (.ref 0), some (.ref 2), some (.ref 420), some (.int (nI (4 * j + 4)))]) rfl dL_law_783 rfl (show nI (4 * j) + Int32.ofInt 4 = nI (4 * j + 4) from nI_add (4 * j) 4) (Nat.le_of_ble_eq_true rfl) rfl ?_
      refine r_goto (pc' := 18) rfl dL_law_786 ?_
      rw [show 4 * j + 4 = 4 * (j + 1) by omega]
      exact ih h378 _ _ _ _ _ _ _ _ _ hS379 hI388 hI380 hX hc hm hG
    · refine r_swI (off := 478) (tgt := 510) dL_law_32 rfl c53a c53b (by rw [c53e]; rfl) ?_
      refine r_aload_n rfl dL_law_510 rfl ?_
      refine r_aload_n rfl dL_law_511 rfl ?_
      refine r_iload_n rfl dL_law_512 rfl ?_
      refine r_iconst (v := 1) rfl dL_law_513 (by decide) ?_
      refine r_iadd rfl dL_law_514 ?_
      refine r_eqi (y := nI ((4 * j) + 1)) (show (nI (4 * j)) + 1 = nI ((4 * j) + 1) from nI_add (4 * j) 1) ?_
      refine r_sld (jn := (4 * j) + 1) rfl dL_law_515 (vp_in_nI (n := (4 * j) + 1) (by omega) (by omega)) (nI_clamp (n := (4 * j) + 1) (by omega)) ?_
      refine r_aload_n rfl dL_law_516 rfl ?_
      refine r_iload_n rfl dL_law_517 rfl ?_
      refine r_iconst (v := 2) rfl dL_law_518 (by decide) ?_
      refine r_iadd rfl dL_law_519 ?_
      refine r_eqi (y := nI ((4 * j) + 2)) (show (nI (4 * j)) + 2 = nI ((4 * j) + 2) from nI_add (4 * j) 2) ?_
      refine r_sld (jn := (4 * j) + 2) rfl dL_law_520 (vp_in_nI (n := (4 * j) + 2) (by omega) (by omega)) (nI_clamp (n := (4 * j) + 2) (by omega)) ?_
      obtain ⟨fs396, f395⟩ := hI.o2
      refine cl_L_77 rfl rfl dL_law_521 (by decide) (by decide) f395 (Nat.le_of_ble_eq_true rfl) (k5_compare hS hI hc hm) ?_
      rintro _ h390 _ ⟨rfl, hS391, hI392, hk393, x394, rfl⟩
      have hI400 := hJ.ku hk393
      refine r_pop rfl dL_law_524 rfl ?_
      refine r_aload_n rfl dL_law_525 rfl ?_
      refine r_aload_n rfl dL_law_526 rfl ?_
      refine r_iload_n rfl dL_law_527 rfl ?_
      refine r_iconst (v := 1) rfl dL_law_528 (by decide) ?_
      refine r_iadd rfl dL_law_529 ?_
      refine r_eqi (y := nI ((4 * j) + 1)) (show (nI (4 * j)) + 1 = nI ((4 * j) + 1) from nI_add (4 * j) 1) ?_
      refine r_sld (jn := (4 * j) + 1) rfl dL_law_530 (vp_in_nI (n := (4 * j) + 1) (by omega) (by omega)) (nI_clamp (n := (4 * j) + 1) (by omega)) ?_
      refine r_aload_n rfl dL_law_531 rfl ?_
      refine r_iload_n rfl dL_law_532 rfl ?_
      refine r_iconst (v := 2) rfl dL_law_533 (by decide) ?_
      refine r_iadd rfl dL_law_534 ?_
      refine r_eqi (y := nI ((4 * j) + 2)) (show (nI (4 * j)) + 2 = nI ((4 * j) + 2) from nI_add (4 * j) 2) ?_
      refine r_sld (jn := (4 * j) + 2) rfl dL_law_535 (vp_in_nI (n := (4 * j) + 2) (by omega) (by omega)) (nI_clamp (n := (4 * j) + 2) (by omega)) ?_
      obtain ⟨fs408, f407⟩ := hI400.o5
      refine cl_L_80 rfl rfl dL_law_536 (by decide) (by decide) f407 (Nat.le_of_ble_eq_true rfl) (j5_compare hS391 hI400 hc hm) ?_
      rintro _ h402 _ ⟨rfl, hS403, hI404, hk405, x406, rfl⟩
      have hI412 := hI392.kd (by omega) hk405
      refine r_pop rfl dL_law_539 rfl ?_
      refine r_goto (pc' := 783) rfl dL_law_540 ?_
      refine r_iinc (y := nI (4 * j + 4)) (ls' := [some (.ref 0), some (.ref 2), some (.ref 420), some (.int (nI (4 * j + 4)))]) rfl dL_law_783 rfl (show nI (4 * j) + Int32.ofInt 4 = nI (4 * j + 4) from nI_add (4 * j) 4) (Nat.le_of_ble_eq_true rfl) rfl ?_
      refine r_goto (pc' := 18) rfl dL_law_786 ?_
      rw [show 4 * j + 4 = 4 * (j + 1) by omega]
      exact ih h402 _ _ _ _ _ _ _ _ _ hS403 hI412 hI404 hX hc hm hG
    · refine r_swI (off := 511) (tgt := 543) dL_law_32 rfl c53a c53b (by rw [c53e]; rfl) ?_
      refine r_aload_n rfl dL_law_543 rfl ?_
      refine r_aload_n rfl dL_law_544 rfl ?_
      refine r_iload_n rfl dL_law_545 rfl ?_
      refine r_iconst (v := 1) rfl dL_law_546 (by decide) ?_
      refine r_iadd rfl dL_law_547 ?_
      refine r_eqi (y := nI ((4 * j) + 1)) (show (nI (4 * j)) + 1 = nI ((4 * j) + 1) from nI_add (4 * j) 1) ?_
      refine r_sld (jn := (4 * j) + 1) rfl dL_law_548 (vp_in_nI (n := (4 * j) + 1) (by omega) (by omega)) (nI_clamp (n := (4 * j) + 1) (by omega)) ?_
      obtain ⟨fs420, f419⟩ := hI.o2
      refine cl_L_81 rfl rfl dL_law_549 (by decide) (by decide) f419 (Nat.le_of_ble_eq_true rfl) (k5_bounds hS hI hc hm hG) ?_
      rintro _ h414 _ ⟨rfl, hS415, hI416, hk417, rfl⟩
      have hI424 := hJ.ku hk417
      refine r_pop rfl dL_law_552 rfl ?_
      refine r_aload_n rfl dL_law_553 rfl ?_
      refine r_aload_n rfl dL_law_554 rfl ?_
      refine r_iload_n rfl dL_law_555 rfl ?_
      refine r_iconst (v := 1) rfl dL_law_556 (by decide) ?_
      refine r_iadd rfl dL_law_557 ?_
      refine r_eqi (y := nI ((4 * j) + 1)) (show (nI (4 * j)) + 1 = nI ((4 * j) + 1) from nI_add (4 * j) 1) ?_
      refine r_sld (jn := (4 * j) + 1) rfl dL_law_558 (vp_in_nI (n := (4 * j) + 1) (by omega) (by omega)) (nI_clamp (n := (4 * j) + 1) (by omega)) ?_
      obtain ⟨fs432, f431⟩ := hI424.o5
      refine cl_L_84 rfl rfl dL_law_559 (by decide) (by decide) f431 (Nat.le_of_ble_eq_true rfl) (j5_bounds hS415 hI424 hc hm hG) ?_
      rintro _ h426 _ ⟨rfl, hS427, hI428, hk429, rfl⟩
      have hI436 := hI416.kd (by omega) hk429
      refine r_pop rfl dL_law_562 rfl ?_
      refine r_goto (pc' := 783) rfl dL_law_563 ?_
      refine r_iinc (y := nI (4 * j + 4)) (ls' := [some (.ref 0), some (.ref 2), some (.ref 420), some (.int (nI (4 * j + 4)))]) rfl dL_law_783 rfl (show nI (4 * j) + Int32.ofInt 4 = nI (4 * j + 4) from nI_add (4 * j) 4) (Nat.le_of_ble_eq_true rfl) rfl ?_
      refine r_goto (pc' := 18) rfl dL_law_786 ?_
      rw [show 4 * j + 4 = 4 * (j + 1) by omega]
      exact ih h426 _ _ _ _ _ _ _ _ _ hS427 hI436 hI428 hX hc hm hG
    · refine r_swI (off := 534) (tgt := 566) dL_law_32 rfl c53a c53b (by rw [c53e]; rfl) ?_
      refine r_aload_n rfl dL_law_566 rfl ?_
      refine r_aload_n rfl dL_law_567 rfl ?_
      refine r_iload_n rfl dL_law_568 rfl ?_
      refine r_iconst (v := 1) rfl dL_law_569 (by decide) ?_
      refine r_iadd rfl dL_law_570 ?_
      refine r_eqi (y := nI ((4 * j) + 1)) (show (nI (4 * j)) + 1 = nI ((4 * j) + 1) from nI_add (4 * j) 1) ?_
      refine r_sld (jn := (4 * j) + 1) rfl dL_law_571 (vp_in_nI (n := (4 * j) + 1) (by omega) (by omega)) (nI_clamp (n := (4 * j) + 1) (by omega)) ?_
      obtain ⟨fs444, f443⟩ := hI.o2
      refine cl_L_85 rfl rfl dL_law_572 (by decide) (by decide) f443 (Nat.le_of_ble_eq_true rfl) (k5_fewest hS hI hc hm hG) ?_
      rintro _ h438 _ ⟨rfl, hS439, hI440, hk441, rfl⟩
      have hI448 := hJ.ku hk441
      refine r_aload_n rfl dL_law_575 rfl ?_
      refine r_aload_n rfl dL_law_576 rfl ?_
      refine r_iload_n rfl dL_law_577 rfl ?_
      refine r_iconst (v := 1) rfl dL_law_578 (by decide) ?_
      refine r_iadd rfl dL_law_579 ?_
      refine r_eqi (y := nI ((4 * j) + 1)) (show (nI (4 * j)) + 1 = nI ((4 * j) + 1) from nI_add (4 * j) 1) ?_
      refine r_sld (jn := (4 * j) + 1) rfl dL_law_580 (vp_in_nI (n := (4 * j) + 1) (by omega) (by omega)) (nI_clamp (n := (4 * j) + 1) (by omega)) ?_
      obtain ⟨fs456, f455⟩ := hI448.o5
      refine cl_L_88 rfl rfl dL_law_581 (by decide) (by decide) f455 (Nat.le_of_ble_eq_true rfl) (j5_fewest hS439 hI448 hc hm hG) ?_
      rintro _ h450 _ ⟨rfl, hS451, hI452, hk453, rfl⟩
      have hI460 := hI440.kd (by omega) hk453
      refine r_icmp_eq (tgt := 783) rfl rfl dL_law_584 (fun _ => ?_) (fun zc => absurd rfl zc)
      refine r_iinc (y := nI (4 * j + 4)) (ls' := [some (.ref 0), some (.ref 2), some (.ref 420), some (.int (nI (4 * j + 4)))]) rfl dL_law_783 rfl (show nI (4 * j) + Int32.ofInt 4 = nI (4 * j + 4) from nI_add (4 * j) 4) (Nat.le_of_ble_eq_true rfl) rfl ?_
      refine r_goto (pc' := 18) rfl dL_law_786 ?_
      rw [show 4 * j + 4 = 4 * (j + 1) by omega]
      exact ih h450 _ _ _ _ _ _ _ _ _ hS451 hI460 hI452 hX hc hm hG
    · refine r_swI (off := 557) (tgt := 589) dL_law_32 rfl c53a c53b (by rw [c53e]; rfl) ?_
      refine r_aload_n rfl dL_law_589 rfl ?_
      refine r_aload_n rfl dL_law_590 rfl ?_
      refine r_iload_n rfl dL_law_591 rfl ?_
      refine r_iconst (v := 1) rfl dL_law_592 (by decide) ?_
      refine r_iadd rfl dL_law_593 ?_
      refine r_eqi (y := nI ((4 * j) + 1)) (show (nI (4 * j)) + 1 = nI ((4 * j) + 1) from nI_add (4 * j) 1) ?_
      refine r_sld (jn := (4 * j) + 1) rfl dL_law_594 (vp_in_nI (n := (4 * j) + 1) (by omega) (by omega)) (nI_clamp (n := (4 * j) + 1) (by omega)) ?_
      refine r_aload_n rfl dL_law_595 rfl ?_
      refine r_iload_n rfl dL_law_596 rfl ?_
      refine r_iconst (v := 2) rfl dL_law_597 (by decide) ?_
      refine r_iadd rfl dL_law_598 ?_
      refine r_eqi (y := nI ((4 * j) + 2)) (show (nI (4 * j)) + 2 = nI ((4 * j) + 2) from nI_add (4 * j) 2) ?_
      refine r_sld (jn := (4 * j) + 2) rfl dL_law_599 (vp_in_nI (n := (4 * j) + 2) (by omega) (by omega)) (nI_clamp (n := (4 * j) + 2) (by omega)) ?_
      obtain ⟨fs468, f467⟩ := hI.o2
      refine cl_L_89 rfl rfl dL_law_600 (by decide) (by decide) f467 (Nat.le_of_ble_eq_true rfl) (k5_tell hS hI hc hm) ?_
      rintro _ h462 _ ⟨rfl, hS463, hI464, hk465, x466, rfl⟩
      have hI472 := hJ.ku hk465
      refine r_pop rfl dL_law_603 rfl ?_
      refine r_aload_n rfl dL_law_604 rfl ?_
      refine r_aload_n rfl dL_law_605 rfl ?_
      refine r_iload_n rfl dL_law_606 rfl ?_
      refine r_iconst (v := 1) rfl dL_law_607 (by decide) ?_
      refine r_iadd rfl dL_law_608 ?_
      refine r_eqi (y := nI ((4 * j) + 1)) (show (nI (4 * j)) + 1 = nI ((4 * j) + 1) from nI_add (4 * j) 1) ?_
      refine r_sld (jn := (4 * j) + 1) rfl dL_law_609 (vp_in_nI (n := (4 * j) + 1) (by omega) (by omega)) (nI_clamp (n := (4 * j) + 1) (by omega)) ?_
      refine r_aload_n rfl dL_law_610 rfl ?_
      refine r_iload_n rfl dL_law_611 rfl ?_
      refine r_iconst (v := 2) rfl dL_law_612 (by decide) ?_
      refine r_iadd rfl dL_law_613 ?_
      refine r_eqi (y := nI ((4 * j) + 2)) (show (nI (4 * j)) + 2 = nI ((4 * j) + 2) from nI_add (4 * j) 2) ?_
      refine r_sld (jn := (4 * j) + 2) rfl dL_law_614 (vp_in_nI (n := (4 * j) + 2) (by omega) (by omega)) (nI_clamp (n := (4 * j) + 2) (by omega)) ?_
      obtain ⟨fs480, f479⟩ := hI472.o5
      refine cl_L_92 rfl rfl dL_law_615 (by decide) (by decide) f479 (Nat.le_of_ble_eq_true rfl) (j5_tell hS463 hI472 hc hm) ?_
      rintro _ h474 _ ⟨rfl, hS475, hI476, hk477, x478, rfl⟩
      have hI484 := hI464.kd (by omega) hk477
      refine r_pop rfl dL_law_618 rfl ?_
      refine r_goto (pc' := 783) rfl dL_law_619 ?_
      refine r_iinc (y := nI (4 * j + 4)) (ls' := [some (.ref 0), some (.ref 2), some (.ref 420), some (.int (nI (4 * j + 4)))]) rfl dL_law_783 rfl (show nI (4 * j) + Int32.ofInt 4 = nI (4 * j + 4) from nI_add (4 * j) 4) (Nat.le_of_ble_eq_true rfl) rfl ?_
      refine r_goto (pc' := 18) rfl dL_law_786 ?_
      rw [show 4 * j + 4 = 4 * (j + 1) by omega]
      exact ih h474 _ _ _ _ _ _ _ _ _ hS475 hI484 hI476 hX hc hm hG
    · refine r_swI (off := 590) (tgt := 622) dL_law_32 rfl c53a c53b (by rw [c53e]; rfl) ?_
      refine r_aload_n rfl dL_law_622 rfl ?_
      refine r_aload_n rfl dL_law_623 rfl ?_
      refine r_iload_n rfl dL_law_624 rfl ?_
      refine r_iconst (v := 1) rfl dL_law_625 (by decide) ?_
      refine r_iadd rfl dL_law_626 ?_
      refine r_eqi (y := nI ((4 * j) + 1)) (show (nI (4 * j)) + 1 = nI ((4 * j) + 1) from nI_add (4 * j) 1) ?_
      refine r_sld (jn := (4 * j) + 1) rfl dL_law_627 (vp_in_nI (n := (4 * j) + 1) (by omega) (by omega)) (nI_clamp (n := (4 * j) + 1) (by omega)) ?_
      refine r_aload_n rfl dL_law_628 rfl ?_
      refine r_iload_n rfl dL_law_629 rfl ?_
      refine r_iconst (v := 2) rfl dL_law_630 (by decide) ?_
      refine r_iadd rfl dL_law_631 ?_
      refine r_eqi (y := nI ((4 * j) + 2)) (show (nI (4 * j)) + 2 = nI ((4 * j) + 2) from nI_add (4 * j) 2) ?_
      refine r_sld (jn := (4 * j) + 2) rfl dL_law_632 (vp_in_nI (n := (4 * j) + 2) (by omega) (by omega)) (nI_clamp (n := (4 * j) + 2) (by omega)) ?_
      refine r_aload_n rfl dL_law_633 rfl ?_
      refine r_iload_n rfl dL_law_634 rfl ?_
      refine r_iconst (v := 3) rfl dL_law_635 (by decide) ?_
      refine r_iadd rfl dL_law_636 ?_
      refine r_eqi (y := nI ((4 * j) + 3)) (show (nI (4 * j)) + 3 = nI ((4 * j) + 3) from nI_add (4 * j) 3) ?_
      refine r_sld (jn := (4 * j) + 3) rfl dL_law_637 (vp_in_nI (n := (4 * j) + 3) (by omega) (by omega)) (nI_clamp (n := (4 * j) + 3) (by omega)) ?_
      obtain ⟨fs492, f491⟩ := hI.o2
      refine cl_L_93 rfl rfl dL_law_638 (by decide) (by decide) f491 (Nat.le_of_ble_eq_true rfl) (k5_copy hS hI hc hm) ?_
      rintro _ h486 _ ⟨rfl, hS487, hI488, hk489, x490, rfl⟩
      have hI496 := hJ.ku hk489
      refine r_pop rfl dL_law_641 rfl ?_
      refine r_aload_n rfl dL_law_642 rfl ?_
      refine r_aload_n rfl dL_law_643 rfl ?_
      refine r_iload_n rfl dL_law_644 rfl ?_
      refine r_iconst (v := 1) rfl dL_law_645 (by decide) ?_
      refine r_iadd rfl dL_law_646 ?_
      refine r_eqi (y := nI ((4 * j) + 1)) (show (nI (4 * j)) + 1 = nI ((4 * j) + 1) from nI_add (4 * j) 1) ?_
      refine r_sld (jn := (4 * j) + 1) rfl dL_law_647 (vp_in_nI (n := (4 * j) + 1) (by omega) (by omega)) (nI_clamp (n := (4 * j) + 1) (by omega)) ?_
      refine r_aload_n rfl dL_law_648 rfl ?_
      refine r_iload_n rfl dL_law_649 rfl ?_
      refine r_iconst (v := 2) rfl dL_law_650 (by decide) ?_
      refine r_iadd rfl dL_law_651 ?_
      refine r_eqi (y := nI ((4 * j) + 2)) (show (nI (4 * j)) + 2 = nI ((4 * j) + 2) from nI_add (4 * j) 2) ?_
      refine r_sld (jn := (4 * j) + 2) rfl dL_law_652 (vp_in_nI (n := (4 * j) + 2) (by omega) (by omega)) (nI_clamp (n := (4 * j) + 2) (by omega)) ?_
      refine r_aload_n rfl dL_law_653 rfl ?_
      refine r_iload_n rfl dL_law_654 rfl ?_
      refine r_iconst (v := 3) rfl dL_law_655 (by decide) ?_
      refine r_iadd rfl dL_law_656 ?_
      refine r_eqi (y := nI ((4 * j) + 3)) (show (nI (4 * j)) + 3 = nI ((4 * j) + 3) from nI_add (4 * j) 3) ?_
      refine r_sld (jn := (4 * j) + 3) rfl dL_law_657 (vp_in_nI (n := (4 * j) + 3) (by omega) (by omega)) (nI_clamp (n := (4 * j) + 3) (by omega)) ?_
      obtain ⟨fs504, f503⟩ := hI496.o5
      refine cl_L_96 rfl rfl dL_law_658 (by decide) (by decide) f503 (Nat.le_of_ble_eq_true rfl) (j5_copy hS487 hI496 hc hm) ?_
      rintro _ h498 _ ⟨rfl, hS499, hI500, hk501, x502, rfl⟩
      have hI508 := hI488.kd (by omega) hk501
      refine r_pop rfl dL_law_661 rfl ?_
      refine r_goto (pc' := 783) rfl dL_law_662 ?_
      refine r_iinc (y := nI (4 * j + 4)) (ls' := [some (.ref 0), some (.ref 2), some (.ref 420), some (.int (nI (4 * j + 4)))]) rfl dL_law_783 rfl (show nI (4 * j) + Int32.ofInt 4 = nI (4 * j + 4) from nI_add (4 * j) 4) (Nat.le_of_ble_eq_true rfl) rfl ?_
      refine r_goto (pc' := 18) rfl dL_law_786 ?_
      rw [show 4 * j + 4 = 4 * (j + 1) by omega]
      exact ih h498 _ _ _ _ _ _ _ _ _ hS499 hI508 hI500 hX hc hm hG
    · refine r_swI (off := 633) (tgt := 665) dL_law_32 rfl c53a c53b (by rw [c53e]; rfl) ?_
      refine r_aload_n rfl dL_law_665 rfl ?_
      obtain ⟨fs516, f515⟩ := hI.o2
      refine cl_L_97 rfl rfl dL_law_666 (by decide) (by decide) f515 (Nat.le_of_ble_eq_true rfl) (k5_check hS hI hc hm) ?_
      rintro _ h510 _ ⟨rfl, hS511, hI512, hk513, x514, rfl⟩
      have hI520 := hJ.ku hk513
      refine r_pop rfl dL_law_669 rfl ?_
      refine r_aload_n rfl dL_law_670 rfl ?_
      obtain ⟨fs528, f527⟩ := hI520.o5
      refine cl_L_100 rfl rfl dL_law_671 (by decide) (by decide) f527 (Nat.le_of_ble_eq_true rfl) (j5_check hS511 hI520 hc hm) ?_
      rintro _ h522 _ ⟨rfl, hS523, hI524, hk525, x526, rfl⟩
      have hI532 := hI512.kd (by omega) hk525
      refine r_pop rfl dL_law_674 rfl ?_
      refine r_goto (pc' := 783) rfl dL_law_675 ?_
      refine r_iinc (y := nI (4 * j + 4)) (ls' := [some (.ref 0), some (.ref 2), some (.ref 420), some (.int (nI (4 * j + 4)))]) rfl dL_law_783 rfl (show nI (4 * j) + Int32.ofInt 4 = nI (4 * j + 4) from nI_add (4 * j) 4) (Nat.le_of_ble_eq_true rfl) rfl ?_
      refine r_goto (pc' := 18) rfl dL_law_786 ?_
      rw [show 4 * j + 4 = 4 * (j + 1) by omega]
      exact ih h522 _ _ _ _ _ _ _ _ _ hS523 hI532 hI524 hX hc hm hG
    · refine r_swI (off := 646) (tgt := 678) dL_law_32 rfl c53a c53b (by rw [c53e]; rfl) ?_
      refine r_aload_n rfl dL_law_678 rfl ?_
      obtain ⟨fs540, f539⟩ := hI.o2
      refine cl_L_101 rfl rfl dL_law_679 (by decide) (by decide) f539 (Nat.le_of_ble_eq_true rfl) (k5_used hS hI hc hm hG) ?_
      rintro _ h534 _ ⟨rfl, hS535, hI536, hk537, rfl⟩
      have hI544 := hJ.ku hk537
      refine r_pop rfl dL_law_682 rfl ?_
      refine r_aload_n rfl dL_law_683 rfl ?_
      obtain ⟨fs552, f551⟩ := hI544.o5
      refine cl_L_104 rfl rfl dL_law_684 (by decide) (by decide) f551 (Nat.le_of_ble_eq_true rfl) (j5_used hS535 hI544 hc hm) ?_
      rintro _ h546 _ ⟨rfl, hS547, hI548, hk549, rfl⟩
      have hI556 := hI536.kd (by omega) hk549
      refine r_pop rfl dL_law_687 rfl ?_
      refine r_goto (pc' := 783) rfl dL_law_688 ?_
      refine r_iinc (y := nI (4 * j + 4)) (ls' := [some (.ref 0), some (.ref 2), some (.ref 420), some (.int (nI (4 * j + 4)))]) rfl dL_law_783 rfl (show nI (4 * j) + Int32.ofInt 4 = nI (4 * j + 4) from nI_add (4 * j) 4) (Nat.le_of_ble_eq_true rfl) rfl ?_
      refine r_goto (pc' := 18) rfl dL_law_786 ?_
      rw [show 4 * j + 4 = 4 * (j + 1) by omega]
      exact ih h546 _ _ _ _ _ _ _ _ _ hS547 hI556 hI548 hX hc hm hG
    · refine r_swI (off := 659) (tgt := 691) dL_law_32 rfl c53a c53b (by rw [c53e]; rfl) ?_
      refine r_aload_n rfl dL_law_691 rfl ?_
      refine r_aload_n rfl dL_law_692 rfl ?_
      refine r_iload_n rfl dL_law_693 rfl ?_
      refine r_iconst (v := 1) rfl dL_law_694 (by decide) ?_
      refine r_iadd rfl dL_law_695 ?_
      refine r_eqi (y := nI ((4 * j) + 1)) (show (nI (4 * j)) + 1 = nI ((4 * j) + 1) from nI_add (4 * j) 1) ?_
      refine r_sld (jn := (4 * j) + 1) rfl dL_law_696 (vp_in_nI (n := (4 * j) + 1) (by omega) (by omega)) (nI_clamp (n := (4 * j) + 1) (by omega)) ?_
      obtain ⟨fs564, f563⟩ := hI.o2
      refine cl_L_105 rfl rfl dL_law_697 (by decide) (by decide) f563 (Nat.le_of_ble_eq_true rfl) (k5_needed hS hI hc hm) ?_
      rintro _ h558 _ ⟨rfl, hS559, hI560, hk561, rfl⟩
      have hI568 := hJ.ku hk561
      refine r_pop rfl dL_law_700 rfl ?_
      refine r_aload_n rfl dL_law_701 rfl ?_
      refine r_aload_n rfl dL_law_702 rfl ?_
      refine r_iload_n rfl dL_law_703 rfl ?_
      refine r_iconst (v := 1) rfl dL_law_704 (by decide) ?_
      refine r_iadd rfl dL_law_705 ?_
      refine r_eqi (y := nI ((4 * j) + 1)) (show (nI (4 * j)) + 1 = nI ((4 * j) + 1) from nI_add (4 * j) 1) ?_
      refine r_sld (jn := (4 * j) + 1) rfl dL_law_706 (vp_in_nI (n := (4 * j) + 1) (by omega) (by omega)) (nI_clamp (n := (4 * j) + 1) (by omega)) ?_
      obtain ⟨fs576, f575⟩ := hI568.o5
      refine cl_L_108 rfl rfl dL_law_707 (by decide) (by decide) f575 (Nat.le_of_ble_eq_true rfl) (j5_needed hS559 hI568 hc hm) ?_
      rintro _ h570 _ ⟨rfl, hS571, hI572, hk573, rfl⟩
      have hI580 := hI560.kd (by omega) hk573
      refine r_pop rfl dL_law_710 rfl ?_
      refine r_goto (pc' := 783) rfl dL_law_711 ?_
      refine r_iinc (y := nI (4 * j + 4)) (ls' := [some (.ref 0), some (.ref 2), some (.ref 420), some (.int (nI (4 * j + 4)))]) rfl dL_law_783 rfl (show nI (4 * j) + Int32.ofInt 4 = nI (4 * j + 4) from nI_add (4 * j) 4) (Nat.le_of_ble_eq_true rfl) rfl ?_
      refine r_goto (pc' := 18) rfl dL_law_786 ?_
      rw [show 4 * j + 4 = 4 * (j + 1) by omega]
      exact ih h570 _ _ _ _ _ _ _ _ _ hS571 hI580 hI572 hX hc hm hG
    · refine r_swI (off := 682) (tgt := 714) dL_law_32 rfl c53a c53b (by rw [c53e]; rfl) ?_
      refine r_aload_n rfl dL_law_714 rfl ?_
      refine r_aload_n rfl dL_law_715 rfl ?_
      refine r_iload_n rfl dL_law_716 rfl ?_
      refine r_iconst (v := 1) rfl dL_law_717 (by decide) ?_
      refine r_iadd rfl dL_law_718 ?_
      refine r_eqi (y := nI ((4 * j) + 1)) (show (nI (4 * j)) + 1 = nI ((4 * j) + 1) from nI_add (4 * j) 1) ?_
      refine r_sld (jn := (4 * j) + 1) rfl dL_law_719 (vp_in_nI (n := (4 * j) + 1) (by omega) (by omega)) (nI_clamp (n := (4 * j) + 1) (by omega)) ?_
      refine r_aload_n rfl dL_law_720 rfl ?_
      refine r_iload_n rfl dL_law_721 rfl ?_
      refine r_iconst (v := 2) rfl dL_law_722 (by decide) ?_
      refine r_iadd rfl dL_law_723 ?_
      refine r_eqi (y := nI ((4 * j) + 2)) (show (nI (4 * j)) + 2 = nI ((4 * j) + 2) from nI_add (4 * j) 2) ?_
      refine r_sld (jn := (4 * j) + 2) rfl dL_law_724 (vp_in_nI (n := (4 * j) + 2) (by omega) (by omega)) (nI_clamp (n := (4 * j) + 2) (by omega)) ?_
      obtain ⟨fs588, f587⟩ := hI.o2
      refine cl_L_109 rfl rfl dL_law_725 (by decide) (by decide) f587 (Nat.le_of_ble_eq_true rfl) (k5_labour hS hI hc hm hG) ?_
      rintro _ h582 _ ⟨rfl, hS583, hI584, hk585, rfl⟩
      have hI592 := hJ.ku hk585
      refine r_pop rfl dL_law_728 rfl ?_
      refine r_aload_n rfl dL_law_729 rfl ?_
      refine r_aload_n rfl dL_law_730 rfl ?_
      refine r_iload_n rfl dL_law_731 rfl ?_
      refine r_iconst (v := 1) rfl dL_law_732 (by decide) ?_
      refine r_iadd rfl dL_law_733 ?_
      refine r_eqi (y := nI ((4 * j) + 1)) (show (nI (4 * j)) + 1 = nI ((4 * j) + 1) from nI_add (4 * j) 1) ?_
      refine r_sld (jn := (4 * j) + 1) rfl dL_law_734 (vp_in_nI (n := (4 * j) + 1) (by omega) (by omega)) (nI_clamp (n := (4 * j) + 1) (by omega)) ?_
      refine r_aload_n rfl dL_law_735 rfl ?_
      refine r_iload_n rfl dL_law_736 rfl ?_
      refine r_iconst (v := 2) rfl dL_law_737 (by decide) ?_
      refine r_iadd rfl dL_law_738 ?_
      refine r_eqi (y := nI ((4 * j) + 2)) (show (nI (4 * j)) + 2 = nI ((4 * j) + 2) from nI_add (4 * j) 2) ?_
      refine r_sld (jn := (4 * j) + 2) rfl dL_law_739 (vp_in_nI (n := (4 * j) + 2) (by omega) (by omega)) (nI_clamp (n := (4 * j) + 2) (by omega)) ?_
      obtain ⟨fs600, f599⟩ := hI592.o5
      refine cl_L_112 rfl rfl dL_law_740 (by decide) (by decide) f599 (Nat.le_of_ble_eq_true rfl) (j5_labour hS583 hI592 hc hm hG) ?_
      rintro _ h594 _ ⟨rfl, hS595, hI596, hk597, rfl⟩
      have hI604 := hI584.kd (by omega) hk597
      refine r_pop rfl dL_law_743 rfl ?_
      refine r_goto (pc' := 783) rfl dL_law_744 ?_
      refine r_iinc (y := nI (4 * j + 4)) (ls' := [some (.ref 0), some (.ref 2), some (.ref 420), some (.int (nI (4 * j + 4)))]) rfl dL_law_783 rfl (show nI (4 * j) + Int32.ofInt 4 = nI (4 * j + 4) from nI_add (4 * j) 4) (Nat.le_of_ble_eq_true rfl) rfl ?_
      refine r_goto (pc' := 18) rfl dL_law_786 ?_
      rw [show 4 * j + 4 = 4 * (j + 1) by omega]
      exact ih h594 _ _ _ _ _ _ _ _ _ hS595 hI604 hI596 hX hc hm hG
    · refine r_swI (off := 715) (tgt := 747) dL_law_32 rfl c53a c53b (by rw [c53e]; rfl) ?_
      refine r_aload_n rfl dL_law_747 rfl ?_
      refine r_aload_n rfl dL_law_748 rfl ?_
      refine r_iload_n rfl dL_law_749 rfl ?_
      refine r_iconst (v := 1) rfl dL_law_750 (by decide) ?_
      refine r_iadd rfl dL_law_751 ?_
      refine r_eqi (y := nI ((4 * j) + 1)) (show (nI (4 * j)) + 1 = nI ((4 * j) + 1) from nI_add (4 * j) 1) ?_
      refine r_sld (jn := (4 * j) + 1) rfl dL_law_752 (vp_in_nI (n := (4 * j) + 1) (by omega) (by omega)) (nI_clamp (n := (4 * j) + 1) (by omega)) ?_
      obtain ⟨fs612, f611⟩ := hI.o2
      refine cl_L_113 rfl rfl dL_law_753 (by decide) (by decide) f611 (Nat.le_of_ble_eq_true rfl) (k5_count hS hI hc hm) ?_
      rintro _ h606 _ ⟨rfl, hS607, hI608, hk609, x610, rfl⟩
      have hI616 := hJ.ku hk609
      refine r_pop rfl dL_law_756 rfl ?_
      refine r_aload_n rfl dL_law_757 rfl ?_
      refine r_aload_n rfl dL_law_758 rfl ?_
      refine r_iload_n rfl dL_law_759 rfl ?_
      refine r_iconst (v := 1) rfl dL_law_760 (by decide) ?_
      refine r_iadd rfl dL_law_761 ?_
      refine r_eqi (y := nI ((4 * j) + 1)) (show (nI (4 * j)) + 1 = nI ((4 * j) + 1) from nI_add (4 * j) 1) ?_
      refine r_sld (jn := (4 * j) + 1) rfl dL_law_762 (vp_in_nI (n := (4 * j) + 1) (by omega) (by omega)) (nI_clamp (n := (4 * j) + 1) (by omega)) ?_
      obtain ⟨fs624, f623⟩ := hI616.o5
      refine cl_L_116 rfl rfl dL_law_763 (by decide) (by decide) f623 (Nat.le_of_ble_eq_true rfl) (j5_count hS607 hI616 hc hm) ?_
      rintro _ h618 _ ⟨rfl, hS619, hI620, hk621, x622, rfl⟩
      have hI628 := hI608.kd (by omega) hk621
      refine r_pop rfl dL_law_766 rfl ?_
      refine r_goto (pc' := 783) rfl dL_law_767 ?_
      refine r_iinc (y := nI (4 * j + 4)) (ls' := [some (.ref 0), some (.ref 2), some (.ref 420), some (.int (nI (4 * j + 4)))]) rfl dL_law_783 rfl (show nI (4 * j) + Int32.ofInt 4 = nI (4 * j + 4) from nI_add (4 * j) 4) (Nat.le_of_ble_eq_true rfl) rfl ?_
      refine r_goto (pc' := 18) rfl dL_law_786 ?_
      rw [show 4 * j + 4 = 4 * (j + 1) by omega]
      exact ih h618 _ _ _ _ _ _ _ _ _ hS619 hI628 hI620 hX hc hm hG
    · refine r_swI (off := 738) (tgt := 770) dL_law_32 rfl c53a c53b (by rw [c53e]; rfl) ?_
      refine r_aload_n rfl dL_law_770 rfl ?_
      obtain ⟨fs636, f635⟩ := hI.o2
      refine cl_L_117 rfl rfl dL_law_771 (by decide) (by decide) f635 (Nat.le_of_ble_eq_true rfl) (k5_trace hS hI hc hm) ?_
      rintro _ h630 _ ⟨rfl, hS631, hI632, hk633, rfl⟩
      have hI640 := hJ.ku hk633
      refine r_pop2 rfl dL_law_774 rfl ?_
      refine r_aload_n rfl dL_law_775 rfl ?_
      obtain ⟨fs648, f647⟩ := hI640.o5
      refine cl_L_121 rfl rfl dL_law_776 (by decide) (by decide) f647 (Nat.le_of_ble_eq_true rfl) (j5_trace hS631 hI640 hc hm) ?_
      rintro _ h642 _ ⟨rfl, hS643, hI644, hk645, rfl⟩
      have hI652 := hI632.kd (by omega) hk645
      refine r_pop2 rfl dL_law_779 rfl ?_
      refine r_goto (pc' := 783) rfl dL_law_780 ?_
      refine r_iinc (y := nI (4 * j + 4)) (ls' := [some (.ref 0), some (.ref 2), some (.ref 420), some (.int (nI (4 * j + 4)))]) rfl dL_law_783 rfl (show nI (4 * j) + Int32.ofInt 4 = nI (4 * j + 4) from nI_add (4 * j) 4) (Nat.le_of_ble_eq_true rfl) rfl ?_
      refine r_goto (pc' := 18) rfl dL_law_786 ?_
      rw [show 4 * j + 4 = 4 * (j + 1) by omega]
      exact ih h642 _ _ _ _ _ _ _ _ _ hS643 hI652 hI644 hX hc hm hG
set_option maxRecDepth 20000 in
theorem law_end {xs : Nat → Int32} {L d kc ks : Nat} {h : ev_H} {j : Nat} (hL : L ≤ 2048 ∧ 4 * j ≤ L + 4) (hj : L < 4 * j + 4) : EV xs L (d + 23) kc ks M_L_law 434 h 18 [some (.ref 0), some (.ref 2), some (.ref 420), some (.int (nI (4 * j)))] [] (fun _ _ r => r = [.int 1]) := by
  refine r_iload_n rfl dL_law_18 rfl ?_
  refine r_aload_n rfl dL_law_19 rfl ?_
  refine r_slen rfl dL_law_20 ?_
  refine r_iconst (v := 4) rfl dL_law_21 (by decide) ?_
  refine r_isub rfl dL_law_22 ?_
  refine r_icmp_gt (tgt := 789) rfl rfl dL_law_23 (fun _ => ?_) (fun zc => absurd (law_out hL hj) zc)
  refine r_iconst (v := 1) rfl dL_law_789 (by decide) ?_
  exact r_ret dL_law_790 (rt_z rfl (Or.inr rfl)) rfl
theorem law_loop {xs : Nat → Int32} {L d kc ks : Nat} (hL : L ≤ 2048) : ∀ (t j : Nat) (h : ev_H) (n c m t0 : Nat) (wr : Int32) (s : Int64) (f g G : Nat → Int32), L < 4 * j + 4 * t + 4 → 4 * j ≤ L + 4 → SH h → IC5 n c m t0 wr s f G h → IM5 n c m t0 wr s g G h → TXR f g n → c ≤ 16 → m ≤ 24 → GV c m G → EV xs L (d + 23) kc ks M_L_law 434 h 18 [some (.ref 0), some (.ref 2), some (.ref 420), some (.int (nI (4 * j)))] [] (fun _ _ r => r = [.int 1]) := by
  intro t
  induction t with
  | zero => intro j h n c m t0 wr s f g G ht hj hS hI hJ hX hc hm hG; exact law_end ⟨hL, hj⟩ (by omega)
  | succ t ih =>
    intro j h n c m t0 wr s f g G ht hj hS hI hJ hX hc hm hG
    by_cases hz : 4 * j + 4 ≤ L
    · exact law_step hS hI hJ hX hc hm hG hL hz (fun h' n' c' m' t' wr' s' f' g' G' q1 q2 q3 q4 q5 q6 q7 => ih (j + 1) h' n' c' m' t' wr' s' f' g' G' (by omega) (by omega) q1 q2 q3 q4 q5 q6 q7)
    · exact law_end ⟨hL, hj⟩ (by omega)
set_option maxRecDepth 20000 in
set_option maxHeartbeats 1000000 in
theorem law_body {xs : Nat → Int32} {L d : Nat} {h : ev_H}  (hW : WTH h) (hL : L ≤ 2048) : EV xs L (d + 23) (600000) (7302250) M_L_law (2) h 0 [some (.ref 0), none, none, none] [] (fun sz' h' r => r = [.int 1]) := by
  refine r_bud (kc' := 599999 + 1) (ks' := 7302234 + 16) (by omega) (by omega) ?_
  refine k_new 11 (fs := [.null, .null, .null, .null, .null, .null, .null, .null, .null, .null, .null, .int 0, .int 0, .int 0, .int 0, .int 0]) rfl dL_law_0 hW rfl rfl lk_L_7 lt_X11 lz_X11 rfl (fun h51 hW52 hk53 f54 => ?_)
  have K55 : KL (2) h h51 := KL_tr (by omega) (KL_rf (2) h) hk53
  refine r_dup rfl dL_law_3 rfl ?_
  refine r_bud (kc' := 417 + (599582)) (ks' := 1924 + (7300310)) (by omega) (by omega) ?_
  refine cl_L_9 rfl rfl dL_law_4 (Nat.le_of_ble_eq_true rfl) (s_X11_init hW52 f54) ?_
  rintro _ h56 _ ⟨rfl, hW57, hk58, B59, f60, f61, f62, f63, f64, f65, f66, f67, f68, f69, f70, rfl⟩
  have K71 : KL (2) h h56 := KL_tr (by omega) K55 hk58
  refine r_astore_n (ls' := [some (.ref 0), some (.ref 2), none, none]) rfl dL_law_7 (Nat.le_of_ble_eq_true rfl) rfl ?_
  refine r_bud (kc' := 599581 + 1) (ks' := 7300285 + 25) (by omega) (by omega) ?_
  refine k_new 12 (fs := [.int 0, .long 0, .null, .int 0, .int 0, .int 0, .int 0, .int 0, .int 0, .int 0, .int 0, .int 0, .int 0, .null, .null, .null, .null, .null, .null, .null, .null, .null, .null, .null, .null]) rfl dL_law_8 hW57 rfl rfl lk_L_10 lt_X12 lz_X12 rfl (fun h72 hW73 hk74 f75 => ?_)
  have f76 : h72 (2) = c2 0 0 0 (-9) (-9) := (hk74 (2) (by omega)).trans f60
  have f77 : h72 (3) = c3 0 0 0 0 0 := (hk74 (3) (by omega)).trans f61
  have f78 : h72 (4) = c4 (fun _ => 0) := (hk74 (4) (by omega)).trans f62
  have f79 : h72 (24) = c24 0 0 0 0 := (hk74 (24) (by omega)).trans f63
  have f80 : h72 (95) = .inr (9, [.long 0]) := (hk74 (95) (by omega)).trans f64
  have f81 : h72 (13) = c13 0 0 0 0 := (hk74 (13) (by omega)).trans f65
  have f82 : h72 (15) = .inl (1, 4, .inr (.inl (ws4 (fun _ => 0) (-1) (-1) (-1) (-1)))) := (hk74 (15) (by omega)).trans f66
  have f83 : h72 (17) = .inl (1, 4, .inr (.inl (ws4 (fun _ => 0) (-1) (-1) (-1) (-1)))) := (hk74 (17) (by omega)).trans f67
  have f84 : h72 (19) = .inl (1, 4, .inr (.inl (ws4 (fun _ => 0) (-1) (-1) (-1) (-1)))) := (hk74 (19) (by omega)).trans f68
  have f85 : h72 (21) = .inl (1, 4, .inr (.inl (fun _ => 0))) := (hk74 (21) (by omega)).trans f69
  have f86 : h72 (94) = .inl (1, 4, .inr (.inl (fun _ => 0))) := (hk74 (94) (by omega)).trans f70
  have B87 : BT (2) (420) h72 := BT_kl B59 hk74 (by omega)
  have K88 : KL (2) h h72 := KL_tr (by omega) K71 hk74
  refine r_dup rfl dL_law_11 rfl ?_
  refine r_bud (kc' := 13 + (599568)) (ks' := 1329 + (7298956)) (by omega) (by omega) ?_
  refine cl_L_12 rfl rfl dL_law_12 (Nat.le_of_ble_eq_true rfl) (zz_X12_init hW73 f75 B87) ?_
  rintro _ h89 _ ⟨rfl, hS90, hk91, f92, f93, f94, br95, rfl⟩
  refine r_astore_n (ls' := [some (.ref 0), some (.ref 2), some (.ref 420), none]) rfl dL_law_15 (Nat.le_of_ble_eq_true rfl) rfl ?_
  refine r_iconst (v := 0) rfl dL_law_16 (by decide) ?_
  refine r_istore_n (ls' := [some (.ref 0), some (.ref 2), some (.ref 420), some (.int 0)]) rfl dL_law_17 (Nat.le_of_ble_eq_true rfl) rfl ?_
  obtain ⟨H0, f25⟩ := hS90.la LA_425
  obtain ⟨Y0, f26⟩ := hS90.la LA_426
  refine law_loop hL L 0 h89 0 0 0 0 (-9) 0 (fun _ => 0) (fun _ => 0) (fun _ => 0) (by omega) (by omega) hS90 ⟨((hk91 2 (by decide)).trans f76), ⟨_, _, _, _, ((hk91 3 (by decide)).trans f77)⟩, ((hk91 4 (by decide)).trans f78), ⟨_, _, ((hk91 13 (by decide)).trans f81), Or.inl rfl⟩, ⟨_, _, _, ((hk91 24 (by decide)).trans f79), Or.inl rfl⟩, ((hk91 95 (by decide)).trans f80), fun i hi => absurd hi (by omega), SD_0 ((hk91 15 (by decide)).trans f82) ((hk91 17 (by decide)).trans f83) ((hk91 19 (by decide)).trans f84) ((hk91 21 (by decide)).trans f85), ⟨fun i hi => absurd hi (by omega), by decide⟩, fun _ => 0, fun i hi => absurd hi (by omega), fun i hi => absurd hi (by omega)⟩ ⟨⟨_, _, _, _, _, _, f92⟩, f93, f94, (by have e : shN (fun _ => 0) 0 = 0 := (by decide); rw [e]; exact br95), H0, Y0, f25, fun i hi => absurd hi (by omega), f26, fun i hi => absurd hi (by omega)⟩ (TXR_0 _ _) (by decide) (by decide) ⟨fun i hi => absurd hi (by omega), fun i hi => absurd hi (by omega), fun i _ hi => absurd hi (by omega)⟩
theorem law_EV {xs : Nat → Int32} {L : Nat} (hL : L ≤ 2048) : EV xs L 23 600000 7302250 M_law 2 (fun _ => .inl (0, 0, .inl (fun _ => 0))) 0 (ev_en [.ref 0] 4) [] (fun _ _ r => r = [.int 1]) := law_body (d := 0) (fun _ => trivial) hL
