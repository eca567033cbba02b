abbrev M_L_law : ev_M := M_law
theorem law_in {L j : Nat} (hL : L ≤ 2048) (hj : 4 * j + 4 ≤ L) : ¬ Int32.ofNat L - 4 < nI (4 * j) := by
  rw [Int32.lt_iff_toInt_lt, show Int32.ofNat L - 4 = nI L - nI 4 from rfl, pk_sub_toInt (by omega) (by decide), nI_toInt (by omega)]
  omega
theorem law_out {L j : Nat} (hL : L ≤ 2048 ∧ 4 * j ≤ L + 4) (hj : L < 4 * j + 4) : Int32.ofNat L - 4 < nI (4 * j) := by
  rw [Int32.lt_iff_toInt_lt, show Int32.ofNat L - 4 = nI L - nI 4 from rfl, pk_sub_toInt (by omega) (by decide), nI_toInt (by omega)]
  omega
set_option maxRecDepth 20000 in
set_option maxHeartbeats 4000000 in
theorem law_step {xs : Nat → Int32} {L d kc ks : Nat} {h : ev_H} {n c m j : Nat} {f g : Nat → Int32} (hS : SH h) (hI : ICs n c f h) (hJ : IMs n c m g h) (hX : TXR f g n) (hc : c ≤ 16) (hm : m ≤ 24) (hL : L ≤ 2048) (hj : 4 * j + 4 ≤ L) (ih : ∀ (h' : ev_H) (n' c' m' : Nat) (f' g' : Nat → Int32), SH h' → ICs n' c' f' h' → IMs n' c' m' g' h' → TXR f' g' n' → c' ≤ 16 → m' ≤ 24 → EV xs L (d + 23) kc ks M_L_law 434 h' 18 [some (.ref 0), some (.ref 2), some (.ref 420), some (.int (nI (4 * (j + 1))))] [] (fun _ _ r => r = [.int 1])) : EV xs L (d + 23) kc ks M_L_law 434 h 18 [some (.ref 0), some (.ref 2), some (.ref 420), some (.int (nI (4 * j)))] [] (fun _ _ r => r = [.int 1]) := by
  refine r_iload_n rfl dL_law_18 rfl ?_
  refine r_aload_n rfl dL_law_19 rfl ?_
  refine r_slen rfl dL_law_20 ?_
  refine r_iconst (v := 4) rfl dL_law_21 (by decide) ?_
  refine r_isub rfl dL_law_22 ?_
  refine r_icmp_gt (tgt := 789) rfl rfl dL_law_23 (fun zc => absurd zc (law_in hL hj)) (fun _ => ?_)
  refine r_aload_n rfl dL_law_26 rfl ?_
  refine r_iload_n rfl dL_law_27 rfl ?_
  refine r_sld (jn := 4 * j) rfl dL_law_28 (vp_in_nI (n := 4 * j) (by omega) (by omega)) (nI_clamp (n := 4 * j) (by omega)) ?_
  refine r_bipush (v := 31) rfl dL_law_29 (by decide) ?_
  refine r_iand rfl dL_law_31 ?_
  refine r_topi (fun x51 e52 => ?_)
  by_cases c53 : x51.toInt < 0 ∨ 24 < x51.toInt
  · refine r_swO (tgt := 783) dL_law_32 rfl c53 ?_
    refine r_iinc (y := nI (4 * j + 4)) (ls' := [some (.ref 0), some (.ref 2), some (.ref 420), some (.int (nI (4 * j + 4)))]) rfl dL_law_783 rfl (show nI (4 * j) + Int32.ofInt 4 = nI (4 * j + 4) from nI_add (4 * j) 4) (Nat.le_of_ble_eq_true rfl) rfl ?_
    refine r_goto (pc' := 18) rfl dL_law_786 ?_
    rw [show 4 * j + 4 = 4 * (j + 1) by omega]
    exact ih h _ _ _ _ _ hS hI hJ hX hc hm
  · have c53a : ¬ x51.toInt < 0 := fun z => c53 (Or.inl z)
    have c53b : ¬ 24 < x51.toInt := fun z => c53 (Or.inr z)
    rcases (show x51.toInt = 0 ∨ x51.toInt = 1 ∨ x51.toInt = 2 ∨ x51.toInt = 3 ∨ x51.toInt = 4 ∨ x51.toInt = 5 ∨ x51.toInt = 6 ∨ x51.toInt = 7 ∨ x51.toInt = 8 ∨ x51.toInt = 9 ∨ x51.toInt = 10 ∨ x51.toInt = 11 ∨ x51.toInt = 12 ∨ x51.toInt = 13 ∨ x51.toInt = 14 ∨ x51.toInt = 15 ∨ x51.toInt = 16 ∨ x51.toInt = 17 ∨ x51.toInt = 18 ∨ x51.toInt = 19 ∨ x51.toInt = 20 ∨ x51.toInt = 21 ∨ x51.toInt = 22 ∨ x51.toInt = 23 ∨ x51.toInt = 24 by omega) with c53e | c53e | c53e | c53e | c53e | c53e | c53e | c53e | c53e | c53e | c53e | c53e | c53e | c53e | c53e | c53e | c53e | c53e | c53e | c53e | c53e | c53e | c53e | c53e | c53e
    · refine r_swI (off := 116) (tgt := 148) dL_law_32 rfl c53a c53b (by rw [c53e]; rfl) ?_
      refine r_aload_n rfl dL_law_148 rfl ?_
      refine r_aload_n rfl dL_law_149 rfl ?_
      refine r_iload_n rfl dL_law_150 rfl ?_
      refine r_iconst (v := 1) rfl dL_law_151 (by decide) ?_
      refine r_iadd rfl dL_law_152 ?_
      refine r_eqi (y := nI ((4 * j) + 1)) (show (nI (4 * j)) + 1 = nI ((4 * j) + 1) from nI_add (4 * j) 1) ?_
      refine r_sld (jn := (4 * j) + 1) rfl dL_law_153 (vp_in_nI (n := (4 * j) + 1) (by omega) (by omega)) (nI_clamp (n := (4 * j) + 1) (by omega)) ?_
      refine r_i2l rfl dL_law_154 ?_
      refine r_bipush (v := 32) rfl dL_law_155 (by decide) ?_
      refine r_lshl rfl dL_law_157 ?_
      refine r_aload_n rfl dL_law_158 rfl ?_
      refine r_iload_n rfl dL_law_159 rfl ?_
      refine r_iconst (v := 2) rfl dL_law_160 (by decide) ?_
      refine r_iadd rfl dL_law_161 ?_
      refine r_eqi (y := nI ((4 * j) + 2)) (show (nI (4 * j)) + 2 = nI ((4 * j) + 2) from nI_add (4 * j) 2) ?_
      refine r_sld (jn := (4 * j) + 2) rfl dL_law_162 (vp_in_nI (n := (4 * j) + 2) (by omega) (by omega)) (nI_clamp (n := (4 * j) + 2) (by omega)) ?_
      refine r_i2l rfl dL_law_163 ?_
      refine r_ldc2 (v := 4294967295) rfl dL_law_164 lc_L_13 ?_
      refine r_land rfl dL_law_167 ?_
      refine r_lor rfl dL_law_168 ?_
      refine r_aload_n rfl dL_law_169 rfl ?_
      refine r_iload_n rfl dL_law_170 rfl ?_
      refine r_iconst (v := 3) rfl dL_law_171 (by decide) ?_
      refine r_iadd rfl dL_law_172 ?_
      refine r_eqi (y := nI ((4 * j) + 3)) (show (nI (4 * j)) + 3 = nI ((4 * j) + 3) from nI_add (4 * j) 3) ?_
      refine r_sld (jn := (4 * j) + 3) rfl dL_law_173 (vp_in_nI (n := (4 * j) + 3) (by omega) (by omega)) (nI_clamp (n := (4 * j) + 3) (by omega)) ?_
      obtain ⟨fs60, f59⟩ := hI.o2
      refine cl_L_15 rfl rfl dL_law_174 (by decide) (by decide) f59 (Nat.le_of_ble_eq_true rfl) (lc_type hS hI hX.1) ?_
      rintro _ h54 _ ⟨rfl, hS55, hI56, hk57, rfl⟩
      have hI65 := hJ.ku hk57
      refine r_pop rfl dL_law_177 rfl ?_
      refine r_aload_n rfl dL_law_178 rfl ?_
      refine r_aload_n rfl dL_law_179 rfl ?_
      refine r_iload_n rfl dL_law_180 rfl ?_
      refine r_iconst (v := 1) rfl dL_law_181 (by decide) ?_
      refine r_iadd rfl dL_law_182 ?_
      refine r_eqi (y := nI ((4 * j) + 1)) (show (nI (4 * j)) + 1 = nI ((4 * j) + 1) from nI_add (4 * j) 1) ?_
      refine r_sld (jn := (4 * j) + 1) rfl dL_law_183 (vp_in_nI (n := (4 * j) + 1) (by omega) (by omega)) (nI_clamp (n := (4 * j) + 1) (by omega)) ?_
      refine r_i2l rfl dL_law_184 ?_
      refine r_bipush (v := 32) rfl dL_law_185 (by decide) ?_
      refine r_lshl rfl dL_law_187 ?_
      refine r_aload_n rfl dL_law_188 rfl ?_
      refine r_iload_n rfl dL_law_189 rfl ?_
      refine r_iconst (v := 2) rfl dL_law_190 (by decide) ?_
      refine r_iadd rfl dL_law_191 ?_
      refine r_eqi (y := nI ((4 * j) + 2)) (show (nI (4 * j)) + 2 = nI ((4 * j) + 2) from nI_add (4 * j) 2) ?_
      refine r_sld (jn := (4 * j) + 2) rfl dL_law_192 (vp_in_nI (n := (4 * j) + 2) (by omega) (by omega)) (nI_clamp (n := (4 * j) + 2) (by omega)) ?_
      refine r_i2l rfl dL_law_193 ?_
      refine r_ldc2 (v := 4294967295) rfl dL_law_194 lc_L_13 ?_
      refine r_land rfl dL_law_197 ?_
      refine r_lor rfl dL_law_198 ?_
      refine r_aload_n rfl dL_law_199 rfl ?_
      refine r_iload_n rfl dL_law_200 rfl ?_
      refine r_iconst (v := 3) rfl dL_law_201 (by decide) ?_
      refine r_iadd rfl dL_law_202 ?_
      refine r_eqi (y := nI ((4 * j) + 3)) (show (nI (4 * j)) + 3 = nI ((4 * j) + 3) from nI_add (4 * j) 3) ?_
      refine r_sld (jn := (4 * j) + 3) rfl dL_law_203 (vp_in_nI (n := (4 * j) + 3) (by omega) (by omega)) (nI_clamp (n := (4 * j) + 3) (by omega)) ?_
      obtain ⟨fs72, f71⟩ := hI65.o5
      refine cl_L_19 rfl rfl dL_law_204 (by decide) (by decide) f71 (Nat.le_of_ble_eq_true rfl) (lm_type hS55 hI65 hX.1) ?_
      rintro _ h66 _ ⟨rfl, hS67, hI68, hk69, rfl⟩
      have hI77 := hI56.kd hk69
      have hX73 := apb_TX (v := (((xs ((4 * j) + 1) : Int32).toInt64) <<< ((32 : Int32).toInt64 &&& 63)) ||| (((xs ((4 * j) + 2) : Int32).toInt64) &&& 4294967295)) (tyO (xs ((4 * j) + 3)) n) n f g hX (tyO_le (xs ((4 * j) + 3)) n hX.1).2 (tyO_le (xs ((4 * j) + 3)) n hX.1).1
      refine r_pop rfl dL_law_207 rfl ?_
      refine r_goto (pc' := 783) rfl dL_law_208 ?_
      refine r_iinc (y := nI (4 * j + 4)) (ls' := [some (.ref 0), some (.ref 2), some (.ref 420), some (.int (nI (4 * j + 4)))]) rfl dL_law_783 rfl (show nI (4 * j) + Int32.ofInt 4 = nI (4 * j + 4) from nI_add (4 * j) 4) (Nat.le_of_ble_eq_true rfl) rfl ?_
      refine r_goto (pc' := 18) rfl dL_law_786 ?_
      rw [show 4 * j + 4 = 4 * (j + 1) by omega]
      exact ih h66 _ _ _ _ _ hS67 hI77 hI68 hX73 hc hm
    · refine r_swI (off := 179) (tgt := 211) dL_law_32 rfl c53a c53b (by rw [c53e]; rfl) ?_
      refine r_aload_n rfl dL_law_211 rfl ?_
      obtain ⟨fs84, f83⟩ := hI.o2
      refine cl_L_20 rfl rfl dL_law_212 (by decide) (by decide) f83 (Nat.le_of_ble_eq_true rfl) (lc_clear hS hI hX.1) ?_
      rintro _ h78 _ ⟨rfl, hS79, hI80, hk81, rfl⟩
      have hI89 := hJ.ku hk81
      refine r_pop rfl dL_law_215 rfl ?_
      refine r_aload_n rfl dL_law_216 rfl ?_
      obtain ⟨fs96, f95⟩ := hI89.o5
      refine cl_L_24 rfl rfl dL_law_217 (by decide) (by decide) f95 (Nat.le_of_ble_eq_true rfl) (lm_clear hS79 hI89) ?_
      rintro _ h90 _ ⟨rfl, hS91, hI92, hk93, rfl⟩
      have hI101 := hI80.kd hk93
      have hX97 := TXR_0 f g
      refine r_pop rfl dL_law_220 rfl ?_
      refine r_goto (pc' := 783) rfl dL_law_221 ?_
      refine r_iinc (y := nI (4 * j + 4)) (ls' := [some (.ref 0), some (.ref 2), some (.ref 420), some (.int (nI (4 * j + 4)))]) rfl dL_law_783 rfl (show nI (4 * j) + Int32.ofInt 4 = nI (4 * j + 4) from nI_add (4 * j) 4) (Nat.le_of_ble_eq_true rfl) rfl ?_
      refine r_goto (pc' := 18) rfl dL_law_786 ?_
      rw [show 4 * j + 4 = 4 * (j + 1) by omega]
      exact ih h90 _ _ _ _ _ hS91 hI101 hI92 hX97 hc hm
    · refine r_swI (off := 192) (tgt := 224) dL_law_32 rfl c53a c53b (by rw [c53e]; rfl) ?_
      refine r_aload_n rfl dL_law_224 rfl ?_
      obtain ⟨fs108, f107⟩ := hI.o2
      refine cl_L_25 rfl rfl dL_law_225 (by decide) (by decide) f107 (Nat.le_of_ble_eq_true rfl) (lc_clauses hS hI hX) ?_
      rintro _ h102 _ ⟨rfl, hS103, hI104, hk105, rfl⟩
      have hI113 := hJ.ku hk105
      refine r_aload_n rfl dL_law_228 rfl ?_
      obtain ⟨fs120, f119⟩ := hI113.o5
      refine cl_L_28 rfl rfl dL_law_229 (by decide) (by decide) f119 (Nat.le_of_ble_eq_true rfl) (lm_clauses hS103 hI113 hX hm) ?_
      rintro _ h114 _ ⟨rfl, hS115, ⟨m123, hm124, hI116⟩, hk117, rfl⟩
      have hI125 := hI104.kd hk117
      have hX121 := TXR_clN hX
      have hc122 := clC_le (f := f) (n := n) hc
      refine r_icmp_eq (tgt := 783) rfl rfl dL_law_232 (fun _ => ?_) (fun zc => absurd rfl zc)
      refine r_iinc (y := nI (4 * j + 4)) (ls' := [some (.ref 0), some (.ref 2), some (.ref 420), some (.int (nI (4 * j + 4)))]) rfl dL_law_783 rfl (show nI (4 * j) + Int32.ofInt 4 = nI (4 * j + 4) from nI_add (4 * j) 4) (Nat.le_of_ble_eq_true rfl) rfl ?_
      refine r_goto (pc' := 18) rfl dL_law_786 ?_
      rw [show 4 * j + 4 = 4 * (j + 1) by omega]
      exact ih h114 _ _ _ _ _ hS115 hI125 hI116 hX121 hc122 hm124
    · refine r_swI (off := 205) (tgt := 237) dL_law_32 rfl c53a c53b (by rw [c53e]; rfl) ?_
      refine r_aload_n rfl dL_law_237 rfl ?_
      obtain ⟨fs132, f131⟩ := hI.o2
      refine cl_L_29 rfl rfl dL_law_238 (by decide) (by decide) f131 (Nat.le_of_ble_eq_true rfl) (lc_proof hS hI hX hc) ?_
      rintro _ h126 _ ⟨rfl, hS127, hI128, hk129, x130, rfl⟩
      have hI137 := hJ.ku hk129
      refine r_pop rfl dL_law_241 rfl ?_
      refine r_aload_n rfl dL_law_242 rfl ?_
      obtain ⟨fs144, f143⟩ := hI137.o5
      refine cl_L_32 rfl rfl dL_law_243 (by decide) (by decide) f143 (Nat.le_of_ble_eq_true rfl) (lm_proof hS127 hI137 hX hc hm) ?_
      rintro _ h138 _ ⟨rfl, hS139, ⟨m147, hm148, hI140⟩, hk141, x142, rfl⟩
      have hI149 := hI128.kd hk141
      have hX145 := TXR_prN (c := c) hX
      refine r_pop rfl dL_law_246 rfl ?_
      refine r_goto (pc' := 783) rfl dL_law_247 ?_
      refine r_iinc (y := nI (4 * j + 4)) (ls' := [some (.ref 0), some (.ref 2), some (.ref 420), some (.int (nI (4 * j + 4)))]) rfl dL_law_783 rfl (show nI (4 * j) + Int32.ofInt 4 = nI (4 * j + 4) from nI_add (4 * j) 4) (Nat.le_of_ble_eq_true rfl) rfl ?_
      refine r_goto (pc' := 18) rfl dL_law_786 ?_
      rw [show 4 * j + 4 = 4 * (j + 1) by omega]
      exact ih h138 _ _ _ _ _ hS139 hI149 hI140 hX145 hc hm148
    · refine r_swI (off := 218) (tgt := 250) dL_law_32 rfl c53a c53b (by rw [c53e]; rfl) ?_
      refine r_aload_n rfl dL_law_250 rfl ?_
      obtain ⟨fs156, f155⟩ := hI.o2
      refine cl_L_33 rfl rfl dL_law_251 (by decide) (by decide) f155 (Nat.le_of_ble_eq_true rfl) (lc_wrong hS hI hc) ?_
      rintro _ h150 _ ⟨rfl, hS151, hI152, hk153, x154, rfl⟩
      have hI161 := hJ.ku hk153
      refine r_pop rfl dL_law_254 rfl ?_
      refine r_aload_n rfl dL_law_255 rfl ?_
      obtain ⟨fs168, f167⟩ := hI161.o5
      refine cl_L_36 rfl rfl dL_law_256 (by decide) (by decide) f167 (Nat.le_of_ble_eq_true rfl) (lm_wrong hS151 hI161 hc hm) ?_
      rintro _ h162 _ ⟨rfl, hS163, hI164, hk165, x166, rfl⟩
      have hI173 := hI152.kd hk165
      refine r_pop rfl dL_law_259 rfl ?_
      refine r_goto (pc' := 783) rfl dL_law_260 ?_
      refine r_iinc (y := nI (4 * j + 4)) (ls' := [some (.ref 0), some (.ref 2), some (.ref 420), some (.int (nI (4 * j + 4)))]) rfl dL_law_783 rfl (show nI (4 * j) + Int32.ofInt 4 = nI (4 * j + 4) from nI_add (4 * j) 4) (Nat.le_of_ble_eq_true rfl) rfl ?_
      refine r_goto (pc' := 18) rfl dL_law_786 ?_
      rw [show 4 * j + 4 = 4 * (j + 1) by omega]
      exact ih h162 _ _ _ _ _ hS163 hI173 hI164 hX hc hm
    · refine r_swI (off := 231) (tgt := 263) dL_law_32 rfl c53a c53b (by rw [c53e]; rfl) ?_
      refine r_aload_n rfl dL_law_263 rfl ?_
      obtain ⟨fs180, f179⟩ := hI.o2
      refine cl_L_37 rfl rfl dL_law_264 (by decide) (by decide) f179 (Nat.le_of_ble_eq_true rfl) (lc_end hS hI hc) ?_
      rintro _ h174 _ ⟨rfl, hS175, hI176, hk177, x178, rfl⟩
      have hI185 := hJ.ku hk177
      refine r_pop rfl dL_law_267 rfl ?_
      refine r_aload_n rfl dL_law_268 rfl ?_
      obtain ⟨fs192, f191⟩ := hI185.o5
      refine cl_L_40 rfl rfl dL_law_269 (by decide) (by decide) f191 (Nat.le_of_ble_eq_true rfl) (lm_end hS175 hI185 hc hm) ?_
      rintro _ h186 _ ⟨rfl, hS187, hI188, hk189, x190, rfl⟩
      have hI197 := hI176.kd hk189
      refine r_pop rfl dL_law_272 rfl ?_
      refine r_goto (pc' := 783) rfl dL_law_273 ?_
      refine r_iinc (y := nI (4 * j + 4)) (ls' := [some (.ref 0), some (.ref 2), some (.ref 420), some (.int (nI (4 * j + 4)))]) rfl dL_law_783 rfl (show nI (4 * j) + Int32.ofInt 4 = nI (4 * j + 4) from nI_add (4 * j) 4) (Nat.le_of_ble_eq_true rfl) rfl ?_
      refine r_goto (pc' := 18) rfl dL_law_786 ?_
      rw [show 4 * j + 4 = 4 * (j + 1) by omega]
      exact ih h186 _ _ _ _ _ hS187 hI197 hI188 hX hc hm
    · refine r_swI (off := 244) (tgt := 276) dL_law_32 rfl c53a c53b (by rw [c53e]; rfl) ?_
      refine r_aload_n rfl dL_law_276 rfl ?_
      refine r_aload_n rfl dL_law_277 rfl ?_
      refine r_iload_n rfl dL_law_278 rfl ?_
      refine r_iconst (v := 1) rfl dL_law_279 (by decide) ?_
      refine r_iadd rfl dL_law_280 ?_
      refine r_eqi (y := nI ((4 * j) + 1)) (show (nI (4 * j)) + 1 = nI ((4 * j) + 1) from nI_add (4 * j) 1) ?_
      refine r_sld (jn := (4 * j) + 1) rfl dL_law_281 (vp_in_nI (n := (4 * j) + 1) (by omega) (by omega)) (nI_clamp (n := (4 * j) + 1) (by omega)) ?_
      refine r_aload_n rfl dL_law_282 rfl ?_
      refine r_iload_n rfl dL_law_283 rfl ?_
      refine r_iconst (v := 2) rfl dL_law_284 (by decide) ?_
      refine r_iadd rfl dL_law_285 ?_
      refine r_eqi (y := nI ((4 * j) + 2)) (show (nI (4 * j)) + 2 = nI ((4 * j) + 2) from nI_add (4 * j) 2) ?_
      refine r_sld (jn := (4 * j) + 2) rfl dL_law_286 (vp_in_nI (n := (4 * j) + 2) (by omega) (by omega)) (nI_clamp (n := (4 * j) + 2) (by omega)) ?_
      obtain ⟨fs204, f203⟩ := hI.o2
      refine cl_L_41 rfl rfl dL_law_287 (by decide) (by decide) f203 (Nat.le_of_ble_eq_true rfl) (lc_line hS hI hc) ?_
      rintro _ h198 _ ⟨rfl, hS199, hI200, hk201, x202, rfl⟩
      have hI209 := hJ.ku hk201
      refine r_pop rfl dL_law_290 rfl ?_
      refine r_aload_n rfl dL_law_291 rfl ?_
      refine r_aload_n rfl dL_law_292 rfl ?_
      refine r_iload_n rfl dL_law_293 rfl ?_
      refine r_iconst (v := 1) rfl dL_law_294 (by decide) ?_
      refine r_iadd rfl dL_law_295 ?_
      refine r_eqi (y := nI ((4 * j) + 1)) (show (nI (4 * j)) + 1 = nI ((4 * j) + 1) from nI_add (4 * j) 1) ?_
      refine r_sld (jn := (4 * j) + 1) rfl dL_law_296 (vp_in_nI (n := (4 * j) + 1) (by omega) (by omega)) (nI_clamp (n := (4 * j) + 1) (by omega)) ?_
      refine r_aload_n rfl dL_law_297 rfl ?_
      refine r_iload_n rfl dL_law_298 rfl ?_
      refine r_iconst (v := 2) rfl dL_law_299 (by decide) ?_
      refine r_iadd rfl dL_law_300 ?_
      refine r_eqi (y := nI ((4 * j) + 2)) (show (nI (4 * j)) + 2 = nI ((4 * j) + 2) from nI_add (4 * j) 2) ?_
      refine r_sld (jn := (4 * j) + 2) rfl dL_law_301 (vp_in_nI (n := (4 * j) + 2) (by omega) (by omega)) (nI_clamp (n := (4 * j) + 2) (by omega)) ?_
      obtain ⟨fs216, f215⟩ := hI209.o5
      refine cl_L_45 rfl rfl dL_law_302 (by decide) (by decide) f215 (Nat.le_of_ble_eq_true rfl) (lm_line hS199 hI209 hc hm) ?_
      rintro _ h210 _ ⟨rfl, hS211, hI212, hk213, x214, rfl⟩
      have hI221 := hI200.kd hk213
      refine r_pop rfl dL_law_305 rfl ?_
      refine r_goto (pc' := 783) rfl dL_law_306 ?_
      refine r_iinc (y := nI (4 * j + 4)) (ls' := [some (.ref 0), some (.ref 2), some (.ref 420), some (.int (nI (4 * j + 4)))]) rfl dL_law_783 rfl (show nI (4 * j) + Int32.ofInt 4 = nI (4 * j + 4) from nI_add (4 * j) 4) (Nat.le_of_ble_eq_true rfl) rfl ?_
      refine r_goto (pc' := 18) rfl dL_law_786 ?_
      rw [show 4 * j + 4 = 4 * (j + 1) by omega]
      exact ih h210 _ _ _ _ _ hS211 hI221 hI212 hX hc hm
    · refine r_swI (off := 277) (tgt := 309) dL_law_32 rfl c53a c53b (by rw [c53e]; rfl) ?_
      refine r_aload_n rfl dL_law_309 rfl ?_
      refine r_aload_n rfl dL_law_310 rfl ?_
      refine r_iload_n rfl dL_law_311 rfl ?_
      refine r_iconst (v := 1) rfl dL_law_312 (by decide) ?_
      refine r_iadd rfl dL_law_313 ?_
      refine r_eqi (y := nI ((4 * j) + 1)) (show (nI (4 * j)) + 1 = nI ((4 * j) + 1) from nI_add (4 * j) 1) ?_
      refine r_sld (jn := (4 * j) + 1) rfl dL_law_314 (vp_in_nI (n := (4 * j) + 1) (by omega) (by omega)) (nI_clamp (n := (4 * j) + 1) (by omega)) ?_
      obtain ⟨fs228, f227⟩ := hI.o2
      refine cl_L_46 rfl rfl dL_law_315 (by decide) (by decide) f227 (Nat.le_of_ble_eq_true rfl) (lc_side hS hI hc) ?_
      rintro _ h222 _ ⟨rfl, hS223, hI224, hk225, x226, rfl⟩
      have hI233 := hJ.ku hk225
      refine r_pop rfl dL_law_318 rfl ?_
      refine r_aload_n rfl dL_law_319 rfl ?_
      refine r_aload_n rfl dL_law_320 rfl ?_
      refine r_iload_n rfl dL_law_321 rfl ?_
      refine r_iconst (v := 1) rfl dL_law_322 (by decide) ?_
      refine r_iadd rfl dL_law_323 ?_
      refine r_eqi (y := nI ((4 * j) + 1)) (show (nI (4 * j)) + 1 = nI ((4 * j) + 1) from nI_add (4 * j) 1) ?_
      refine r_sld (jn := (4 * j) + 1) rfl dL_law_324 (vp_in_nI (n := (4 * j) + 1) (by omega) (by omega)) (nI_clamp (n := (4 * j) + 1) (by omega)) ?_
      obtain ⟨fs240, f239⟩ := hI233.o5
      refine cl_L_50 rfl rfl dL_law_325 (by decide) (by decide) f239 (Nat.le_of_ble_eq_true rfl) (lm_side hS223 hI233 hc hm) ?_
      rintro _ h234 _ ⟨rfl, hS235, hI236, hk237, x238, rfl⟩
      have hI245 := hI224.kd hk237
      refine r_pop rfl dL_law_328 rfl ?_
      refine r_goto (pc' := 783) rfl dL_law_329 ?_
      refine r_iinc (y := nI (4 * j + 4)) (ls' := [some (.ref 0), some (.ref 2), some (.ref 420), some (.int (nI (4 * j + 4)))]) rfl dL_law_783 rfl (show nI (4 * j) + Int32.ofInt 4 = nI (4 * j + 4) from nI_add (4 * j) 4) (Nat.le_of_ble_eq_true rfl) rfl ?_
      refine r_goto (pc' := 18) rfl dL_law_786 ?_
      rw [show 4 * j + 4 = 4 * (j + 1) by omega]
      exact ih h234 _ _ _ _ _ hS235 hI245 hI236 hX hc hm
    · refine r_swI (off := 300) (tgt := 332) dL_law_32 rfl c53a c53b (by rw [c53e]; rfl) ?_
      refine r_aload_n rfl dL_law_332 rfl ?_
      refine r_aload_n rfl dL_law_333 rfl ?_
      refine r_iload_n rfl dL_law_334 rfl ?_
      refine r_iconst (v := 1) rfl dL_law_335 (by decide) ?_
      refine r_iadd rfl dL_law_336 ?_
      refine r_eqi (y := nI ((4 * j) + 1)) (show (nI (4 * j)) + 1 = nI ((4 * j) + 1) from nI_add (4 * j) 1) ?_
      refine r_sld (jn := (4 * j) + 1) rfl dL_law_337 (vp_in_nI (n := (4 * j) + 1) (by omega) (by omega)) (nI_clamp (n := (4 * j) + 1) (by omega)) ?_
      refine r_aload_n rfl dL_law_338 rfl ?_
      refine r_iload_n rfl dL_law_339 rfl ?_
      refine r_iconst (v := 2) rfl dL_law_340 (by decide) ?_
      refine r_iadd rfl dL_law_341 ?_
      refine r_eqi (y := nI ((4 * j) + 2)) (show (nI (4 * j)) + 2 = nI ((4 * j) + 2) from nI_add (4 * j) 2) ?_
      refine r_sld (jn := (4 * j) + 2) rfl dL_law_342 (vp_in_nI (n := (4 * j) + 2) (by omega) (by omega)) (nI_clamp (n := (4 * j) + 2) (by omega)) ?_
      obtain ⟨fs252, f251⟩ := hI.o2
      refine cl_L_51 rfl rfl dL_law_343 (by decide) (by decide) f251 (Nat.le_of_ble_eq_true rfl) (lc_holds hS hI hc) ?_
      rintro _ h246 _ ⟨rfl, hS247, hI248, hk249, x250, rfl⟩
      have hI257 := hJ.ku hk249
      refine r_pop rfl dL_law_346 rfl ?_
      refine r_aload_n rfl dL_law_347 rfl ?_
      refine r_aload_n rfl dL_law_348 rfl ?_
      refine r_iload_n rfl dL_law_349 rfl ?_
      refine r_iconst (v := 1) rfl dL_law_350 (by decide) ?_
      refine r_iadd rfl dL_law_351 ?_
      refine r_eqi (y := nI ((4 * j) + 1)) (show (nI (4 * j)) + 1 = nI ((4 * j) + 1) from nI_add (4 * j) 1) ?_
      refine r_sld (jn := (4 * j) + 1) rfl dL_law_352 (vp_in_nI (n := (4 * j) + 1) (by omega) (by omega)) (nI_clamp (n := (4 * j) + 1) (by omega)) ?_
      refine r_aload_n rfl dL_law_353 rfl ?_
      refine r_iload_n rfl dL_law_354 rfl ?_
      refine r_iconst (v := 2) rfl dL_law_355 (by decide) ?_
      refine r_iadd rfl dL_law_356 ?_
      refine r_eqi (y := nI ((4 * j) + 2)) (show (nI (4 * j)) + 2 = nI ((4 * j) + 2) from nI_add (4 * j) 2) ?_
      refine r_sld (jn := (4 * j) + 2) rfl dL_law_357 (vp_in_nI (n := (4 * j) + 2) (by omega) (by omega)) (nI_clamp (n := (4 * j) + 2) (by omega)) ?_
      obtain ⟨fs264, f263⟩ := hI257.o5
      refine cl_L_54 rfl rfl dL_law_358 (by decide) (by decide) f263 (Nat.le_of_ble_eq_true rfl) (lm_holds hS247 hI257 hc hm) ?_
      rintro _ h258 _ ⟨rfl, hS259, hI260, hk261, x262, rfl⟩
      have hI269 := hI248.kd hk261
      refine r_pop rfl dL_law_361 rfl ?_
      refine r_goto (pc' := 783) rfl dL_law_362 ?_
      refine r_iinc (y := nI (4 * j + 4)) (ls' := [some (.ref 0), some (.ref 2), some (.ref 420), some (.int (nI (4 * j + 4)))]) rfl dL_law_783 rfl (show nI (4 * j) + Int32.ofInt 4 = nI (4 * j + 4) from nI_add (4 * j) 4) (Nat.le_of_ble_eq_true rfl) rfl ?_
      refine r_goto (pc' := 18) rfl dL_law_786 ?_
      rw [show 4 * j + 4 = 4 * (j + 1) by omega]
      exact ih h258 _ _ _ _ _ hS259 hI269 hI260 hX hc hm
    · refine r_swI (off := 333) (tgt := 365) dL_law_32 rfl c53a c53b (by rw [c53e]; rfl) ?_
      refine r_aload_n rfl dL_law_365 rfl ?_
      refine r_aload_n rfl dL_law_366 rfl ?_
      refine r_iload_n rfl dL_law_367 rfl ?_
      refine r_iconst (v := 1) rfl dL_law_368 (by decide) ?_
      refine r_iadd rfl dL_law_369 ?_
      refine r_eqi (y := nI ((4 * j) + 1)) (show (nI (4 * j)) + 1 = nI ((4 * j) + 1) from nI_add (4 * j) 1) ?_
      refine r_sld (jn := (4 * j) + 1) rfl dL_law_370 (vp_in_nI (n := (4 * j) + 1) (by omega) (by omega)) (nI_clamp (n := (4 * j) + 1) (by omega)) ?_
      obtain ⟨fs276, f275⟩ := hI.o2
      refine cl_L_55 rfl rfl dL_law_371 (by decide) (by decide) f275 (Nat.le_of_ble_eq_true rfl) (lc_worlds hS hI hc) ?_
      rintro _ h270 _ ⟨rfl, hS271, hI272, hk273, x274, rfl⟩
      have hI281 := hJ.ku hk273
      refine r_pop rfl dL_law_374 rfl ?_
      refine r_aload_n rfl dL_law_375 rfl ?_
      refine r_aload_n rfl dL_law_376 rfl ?_
      refine r_iload_n rfl dL_law_377 rfl ?_
      refine r_iconst (v := 1) rfl dL_law_378 (by decide) ?_
      refine r_iadd rfl dL_law_379 ?_
      refine r_eqi (y := nI ((4 * j) + 1)) (show (nI (4 * j)) + 1 = nI ((4 * j) + 1) from nI_add (4 * j) 1) ?_
      refine r_sld (jn := (4 * j) + 1) rfl dL_law_380 (vp_in_nI (n := (4 * j) + 1) (by omega) (by omega)) (nI_clamp (n := (4 * j) + 1) (by omega)) ?_
      obtain ⟨fs288, f287⟩ := hI281.o5
      refine cl_L_58 rfl rfl dL_law_381 (by decide) (by decide) f287 (Nat.le_of_ble_eq_true rfl) (lm_worlds hS271 hI281 hc hm) ?_
      rintro _ h282 _ ⟨rfl, hS283, hI284, hk285, x286, rfl⟩
      have hI293 := hI272.kd hk285
      refine r_pop rfl dL_law_384 rfl ?_
      refine r_goto (pc' := 783) rfl dL_law_385 ?_
      refine r_iinc (y := nI (4 * j + 4)) (ls' := [some (.ref 0), some (.ref 2), some (.ref 420), some (.int (nI (4 * j + 4)))]) rfl dL_law_783 rfl (show nI (4 * j) + Int32.ofInt 4 = nI (4 * j + 4) from nI_add (4 * j) 4) (Nat.le_of_ble_eq_true rfl) rfl ?_
      refine r_goto (pc' := 18) rfl dL_law_786 ?_
      rw [show 4 * j + 4 = 4 * (j + 1) by omega]
      exact ih h282 _ _ _ _ _ hS283 hI293 hI284 hX hc hm
    · refine r_swI (off := 356) (tgt := 388) dL_law_32 rfl c53a c53b (by rw [c53e]; rfl) ?_
      refine r_aload_n rfl dL_law_388 rfl ?_
      refine r_aload_n rfl dL_law_389 rfl ?_
      refine r_iload_n rfl dL_law_390 rfl ?_
      refine r_iconst (v := 1) rfl dL_law_391 (by decide) ?_
      refine r_iadd rfl dL_law_392 ?_
      refine r_eqi (y := nI ((4 * j) + 1)) (show (nI (4 * j)) + 1 = nI ((4 * j) + 1) from nI_add (4 * j) 1) ?_
      refine r_sld (jn := (4 * j) + 1) rfl dL_law_393 (vp_in_nI (n := (4 * j) + 1) (by omega) (by omega)) (nI_clamp (n := (4 * j) + 1) (by omega)) ?_
      refine r_aload_n rfl dL_law_394 rfl ?_
      refine r_iload_n rfl dL_law_395 rfl ?_
      refine r_iconst (v := 2) rfl dL_law_396 (by decide) ?_
      refine r_iadd rfl dL_law_397 ?_
      refine r_eqi (y := nI ((4 * j) + 2)) (show (nI (4 * j)) + 2 = nI ((4 * j) + 2) from nI_add (4 * j) 2) ?_
      refine r_sld (jn := (4 * j) + 2) rfl dL_law_398 (vp_in_nI (n := (4 * j) + 2) (by omega) (by omega)) (nI_clamp (n := (4 * j) + 2) (by omega)) ?_
      refine r_aload_n rfl dL_law_399 rfl ?_
      refine r_iload_n rfl dL_law_400 rfl ?_
      refine r_iconst (v := 3) rfl dL_law_401 (by decide) ?_
      refine r_iadd rfl dL_law_402 ?_
      refine r_eqi (y := nI ((4 * j) + 3)) (show (nI (4 * j)) + 3 = nI ((4 * j) + 3) from nI_add (4 * j) 3) ?_
      refine r_sld (jn := (4 * j) + 3) rfl dL_law_403 (vp_in_nI (n := (4 * j) + 3) (by omega) (by omega)) (nI_clamp (n := (4 * j) + 3) (by omega)) ?_
      obtain ⟨fs300, f299⟩ := hI.o2
      refine cl_L_59 rfl rfl dL_law_404 (by decide) (by decide) f299 (Nat.le_of_ble_eq_true rfl) (lc_says hS hI hc) ?_
      rintro _ h294 _ ⟨rfl, hS295, hI296, hk297, x298, rfl⟩
      have hI305 := hJ.ku hk297
      refine r_pop rfl dL_law_407 rfl ?_
      refine r_aload_n rfl dL_law_408 rfl ?_
      refine r_aload_n rfl dL_law_409 rfl ?_
      refine r_iload_n rfl dL_law_410 rfl ?_
      refine r_iconst (v := 1) rfl dL_law_411 (by decide) ?_
      refine r_iadd rfl dL_law_412 ?_
      refine r_eqi (y := nI ((4 * j) + 1)) (show (nI (4 * j)) + 1 = nI ((4 * j) + 1) from nI_add (4 * j) 1) ?_
      refine r_sld (jn := (4 * j) + 1) rfl dL_law_413 (vp_in_nI (n := (4 * j) + 1) (by omega) (by omega)) (nI_clamp (n := (4 * j) + 1) (by omega)) ?_
      refine r_aload_n rfl dL_law_414 rfl ?_
      refine r_iload_n rfl dL_law_415 rfl ?_
      refine r_iconst (v := 2) rfl dL_law_416 (by decide) ?_
      refine r_iadd rfl dL_law_417 ?_
      refine r_eqi (y := nI ((4 * j) + 2)) (show (nI (4 * j)) + 2 = nI ((4 * j) + 2) from nI_add (4 * j) 2) ?_
      refine r_sld (jn := (4 * j) + 2) rfl dL_law_418 (vp_in_nI (n := (4 * j) + 2) (by omega) (by omega)) (nI_clamp (n := (4 * j) + 2) (by omega)) ?_
      refine r_aload_n rfl dL_law_419 rfl ?_
      refine r_iload_n rfl dL_law_420 rfl ?_
      refine r_iconst (v := 3) rfl dL_law_421 (by decide) ?_
      refine r_iadd rfl dL_law_422 ?_
      refine r_eqi (y := nI ((4 * j) + 3)) (show (nI (4 * j)) + 3 = nI ((4 * j) + 3) from nI_add (4 * j) 3) ?_
      refine r_sld (jn := (4 * j) + 3) rfl dL_law_423 (vp_in_nI (n := (4 * j) + 3) (by omega) (by omega)) (nI_clamp (n := (4 * j) + 3) (by omega)) ?_
      obtain ⟨fs312, f311⟩ := hI305.o5
      refine cl_L_63 rfl rfl dL_law_424 (by decide) (by decide) f311 (Nat.le_of_ble_eq_true rfl) (lm_says hS295 hI305 hc hm) ?_
      rintro _ h306 _ ⟨rfl, hS307, hI308, hk309, x310, rfl⟩
      have hI317 := hI296.kd hk309
      refine r_pop rfl dL_law_427 rfl ?_
      refine r_goto (pc' := 783) rfl dL_law_428 ?_
      refine r_iinc (y := nI (4 * j + 4)) (ls' := [some (.ref 0), some (.ref 2), some (.ref 420), some (.int (nI (4 * j + 4)))]) rfl dL_law_783 rfl (show nI (4 * j) + Int32.ofInt 4 = nI (4 * j + 4) from nI_add (4 * j) 4) (Nat.le_of_ble_eq_true rfl) rfl ?_
      refine r_goto (pc' := 18) rfl dL_law_786 ?_
      rw [show 4 * j + 4 = 4 * (j + 1) by omega]
      exact ih h306 _ _ _ _ _ hS307 hI317 hI308 hX hc hm
    · refine r_swI (off := 399) (tgt := 431) dL_law_32 rfl c53a c53b (by rw [c53e]; rfl) ?_
      refine r_aload_n rfl dL_law_431 rfl ?_
      refine r_aload_n rfl dL_law_432 rfl ?_
      refine r_iload_n rfl dL_law_433 rfl ?_
      refine r_iconst (v := 1) rfl dL_law_434 (by decide) ?_
      refine r_iadd rfl dL_law_435 ?_
      refine r_eqi (y := nI ((4 * j) + 1)) (show (nI (4 * j)) + 1 = nI ((4 * j) + 1) from nI_add (4 * j) 1) ?_
      refine r_sld (jn := (4 * j) + 1) rfl dL_law_436 (vp_in_nI (n := (4 * j) + 1) (by omega) (by omega)) (nI_clamp (n := (4 * j) + 1) (by omega)) ?_
      refine r_aload_n rfl dL_law_437 rfl ?_
      refine r_iload_n rfl dL_law_438 rfl ?_
      refine r_iconst (v := 2) rfl dL_law_439 (by decide) ?_
      refine r_iadd rfl dL_law_440 ?_
      refine r_eqi (y := nI ((4 * j) + 2)) (show (nI (4 * j)) + 2 = nI ((4 * j) + 2) from nI_add (4 * j) 2) ?_
      refine r_sld (jn := (4 * j) + 2) rfl dL_law_441 (vp_in_nI (n := (4 * j) + 2) (by omega) (by omega)) (nI_clamp (n := (4 * j) + 2) (by omega)) ?_
      obtain ⟨fs324, f323⟩ := hI.o2
      refine cl_L_64 rfl rfl dL_law_442 (by decide) (by decide) f323 (Nat.le_of_ble_eq_true rfl) (lc_saying hS hI hc) ?_
      rintro _ h318 _ ⟨rfl, hS319, hI320, hk321, x322, rfl⟩
      have hI329 := hJ.ku hk321
      refine r_pop2 rfl dL_law_445 rfl ?_
      refine r_aload_n rfl dL_law_446 rfl ?_
      refine r_aload_n rfl dL_law_447 rfl ?_
      refine r_iload_n rfl dL_law_448 rfl ?_
      refine r_iconst (v := 1) rfl dL_law_449 (by decide) ?_
      refine r_iadd rfl dL_law_450 ?_
      refine r_eqi (y := nI ((4 * j) + 1)) (show (nI (4 * j)) + 1 = nI ((4 * j) + 1) from nI_add (4 * j) 1) ?_
      refine r_sld (jn := (4 * j) + 1) rfl dL_law_451 (vp_in_nI (n := (4 * j) + 1) (by omega) (by omega)) (nI_clamp (n := (4 * j) + 1) (by omega)) ?_
      refine r_aload_n rfl dL_law_452 rfl ?_
      refine r_iload_n rfl dL_law_453 rfl ?_
      refine r_iconst (v := 2) rfl dL_law_454 (by decide) ?_
      refine r_iadd rfl dL_law_455 ?_
      refine r_eqi (y := nI ((4 * j) + 2)) (show (nI (4 * j)) + 2 = nI ((4 * j) + 2) from nI_add (4 * j) 2) ?_
      refine r_sld (jn := (4 * j) + 2) rfl dL_law_456 (vp_in_nI (n := (4 * j) + 2) (by omega) (by omega)) (nI_clamp (n := (4 * j) + 2) (by omega)) ?_
      obtain ⟨fs336, f335⟩ := hI329.o5
      refine cl_L_68 rfl rfl dL_law_457 (by decide) (by decide) f335 (Nat.le_of_ble_eq_true rfl) (lm_saying hS319 hI329 hc hm) ?_
      rintro _ h330 _ ⟨rfl, hS331, hI332, hk333, x334, rfl⟩
      have hI341 := hI320.kd hk333
      refine r_pop2 rfl dL_law_460 rfl ?_
      refine r_goto (pc' := 783) rfl dL_law_461 ?_
      refine r_iinc (y := nI (4 * j + 4)) (ls' := [some (.ref 0), some (.ref 2), some (.ref 420), some (.int (nI (4 * j + 4)))]) rfl dL_law_783 rfl (show nI (4 * j) + Int32.ofInt 4 = nI (4 * j + 4) from nI_add (4 * j) 4) (Nat.le_of_ble_eq_true rfl) rfl ?_
      refine r_goto (pc' := 18) rfl dL_law_786 ?_
      rw [show 4 * j + 4 = 4 * (j + 1) by omega]
      exact ih h330 _ _ _ _ _ hS331 hI341 hI332 hX hc hm
    · refine r_swI (off := 432) (tgt := 464) dL_law_32 rfl c53a c53b (by rw [c53e]; rfl) ?_
      refine r_aload_n rfl dL_law_464 rfl ?_
      refine r_aload_n rfl dL_law_465 rfl ?_
      refine r_iload_n rfl dL_law_466 rfl ?_
      refine r_iconst (v := 1) rfl dL_law_467 (by decide) ?_
      refine r_iadd rfl dL_law_468 ?_
      refine r_eqi (y := nI ((4 * j) + 1)) (show (nI (4 * j)) + 1 = nI ((4 * j) + 1) from nI_add (4 * j) 1) ?_
      refine r_sld (jn := (4 * j) + 1) rfl dL_law_469 (vp_in_nI (n := (4 * j) + 1) (by omega) (by omega)) (nI_clamp (n := (4 * j) + 1) (by omega)) ?_
      obtain ⟨fs348, f347⟩ := hI.o2
      refine cl_L_69 rfl rfl dL_law_470 (by decide) (by decide) f347 (Nat.le_of_ble_eq_true rfl) (lc_between hS hI hc) ?_
      rintro _ h342 _ ⟨rfl, hS343, hI344, hk345, x346, rfl⟩
      have hI353 := hJ.ku hk345
      refine r_pop rfl dL_law_473 rfl ?_
      refine r_aload_n rfl dL_law_474 rfl ?_
      refine r_aload_n rfl dL_law_475 rfl ?_
      refine r_iload_n rfl dL_law_476 rfl ?_
      refine r_iconst (v := 1) rfl dL_law_477 (by decide) ?_
      refine r_iadd rfl dL_law_478 ?_
      refine r_eqi (y := nI ((4 * j) + 1)) (show (nI (4 * j)) + 1 = nI ((4 * j) + 1) from nI_add (4 * j) 1) ?_
      refine r_sld (jn := (4 * j) + 1) rfl dL_law_479 (vp_in_nI (n := (4 * j) + 1) (by omega) (by omega)) (nI_clamp (n := (4 * j) + 1) (by omega)) ?_
      obtain ⟨fs360, f359⟩ := hI353.o5
      refine cl_L_72 rfl rfl dL_law_480 (by decide) (by decide) f359 (Nat.le_of_ble_eq_true rfl) (lm_between hS343 hI353 hc hm) ?_
      rintro _ h354 _ ⟨rfl, hS355, hI356, hk357, x358, rfl⟩
      have hI365 := hI344.kd hk357
      refine r_pop rfl dL_law_483 rfl ?_
      refine r_goto (pc' := 783) rfl dL_law_484 ?_
      refine r_iinc (y := nI (4 * j + 4)) (ls' := [some (.ref 0), some (.ref 2), some (.ref 420), some (.int (nI (4 * j + 4)))]) rfl dL_law_783 rfl (show nI (4 * j) + Int32.ofInt 4 = nI (4 * j + 4) from nI_add (4 * j) 4) (Nat.le_of_ble_eq_true rfl) rfl ?_
      refine r_goto (pc' := 18) rfl dL_law_786 ?_
      rw [show 4 * j + 4 = 4 * (j + 1) by omega]
      exact ih h354 _ _ _ _ _ hS355 hI365 hI356 hX hc hm
    · refine r_swI (off := 455) (tgt := 487) dL_law_32 rfl c53a c53b (by rw [c53e]; rfl) ?_
      refine r_aload_n rfl dL_law_487 rfl ?_
      refine r_aload_n rfl dL_law_488 rfl ?_
      refine r_iload_n rfl dL_law_489 rfl ?_
      refine r_iconst (v := 1) rfl dL_law_490 (by decide) ?_
      refine r_iadd rfl dL_law_491 ?_
      refine r_eqi (y := nI ((4 * j) + 1)) (show (nI (4 * j)) + 1 = nI ((4 * j) + 1) from nI_add (4 * j) 1) ?_
      refine r_sld (jn := (4 * j) + 1) rfl dL_law_492 (vp_in_nI (n := (4 * j) + 1) (by omega) (by omega)) (nI_clamp (n := (4 * j) + 1) (by omega)) ?_
      obtain ⟨fs372, f371⟩ := hI.o2
      refine cl_L_73 rfl rfl dL_law_493 (by decide) (by decide) f371 (Nat.le_of_ble_eq_true rfl) (lc_looks hS hI hc) ?_
      rintro _ h366 _ ⟨rfl, hS367, hI368, hk369, x370, rfl⟩
      have hI377 := hJ.ku hk369
      refine r_pop rfl dL_law_496 rfl ?_
      refine r_aload_n rfl dL_law_497 rfl ?_
      refine r_aload_n rfl dL_law_498 rfl ?_
      refine r_iload_n rfl dL_law_499 rfl ?_
      refine r_iconst (v := 1) rfl dL_law_500 (by decide) ?_
      refine r_iadd rfl dL_law_501 ?_
      refine r_eqi (y := nI ((4 * j) + 1)) (show (nI (4 * j)) + 1 = nI ((4 * j) + 1) from nI_add (4 * j) 1) ?_
      refine r_sld (jn := (4 * j) + 1) rfl dL_law_502 (vp_in_nI (n := (4 * j) + 1) (by omega) (by omega)) (nI_clamp (n := (4 * j) + 1) (by omega)) ?_
      obtain ⟨fs384, f383⟩ := hI377.o5
      refine cl_L_76 rfl rfl dL_law_503 (by decide) (by decide) f383 (Nat.le_of_ble_eq_true rfl) (lm_looks hS367 hI377 hc hm) ?_
      rintro _ h378 _ ⟨rfl, hS379, hI380, hk381, x382, rfl⟩
      have hI389 := hI368.kd hk381
      refine r_pop rfl dL_law_506 rfl ?_
      refine r_goto (pc' := 783) rfl dL_law_507 ?_
      refine r_iinc (y := nI (4 * j + 4)) (ls' := [some (.ref 0), some (.ref 2), some (.ref 420), some (.int (nI (4 * j + 4)))]) rfl dL_law_783 rfl (show nI (4 * j) + Int32.ofInt 4 = nI (4 * j + 4) from nI_add (4 * j) 4) (Nat.le_of_ble_eq_true rfl) rfl ?_
      refine r_goto (pc' := 18) rfl dL_law_786 ?_
      rw [show 4 * j + 4 = 4 * (j + 1) by omega]
      exact ih h378 _ _ _ _ _ hS379 hI389 hI380 hX hc hm
    · refine r_swI (off := 478) (tgt := 510) dL_law_32 rfl c53a c53b (by rw [c53e]; rfl) ?_
      refine r_aload_n rfl dL_law_510 rfl ?_
      refine r_aload_n rfl dL_law_511 rfl ?_
      refine r_iload_n rfl dL_law_512 rfl ?_
      refine r_iconst (v := 1) rfl dL_law_513 (by decide) ?_
      refine r_iadd rfl dL_law_514 ?_
      refine r_eqi (y := nI ((4 * j) + 1)) (show (nI (4 * j)) + 1 = nI ((4 * j) + 1) from nI_add (4 * j) 1) ?_
      refine r_sld (jn := (4 * j) + 1) rfl dL_law_515 (vp_in_nI (n := (4 * j) + 1) (by omega) (by omega)) (nI_clamp (n := (4 * j) + 1) (by omega)) ?_
      refine r_aload_n rfl dL_law_516 rfl ?_
      refine r_iload_n rfl dL_law_517 rfl ?_
      refine r_iconst (v := 2) rfl dL_law_518 (by decide) ?_
      refine r_iadd rfl dL_law_519 ?_
      refine r_eqi (y := nI ((4 * j) + 2)) (show (nI (4 * j)) + 2 = nI ((4 * j) + 2) from nI_add (4 * j) 2) ?_
      refine r_sld (jn := (4 * j) + 2) rfl dL_law_520 (vp_in_nI (n := (4 * j) + 2) (by omega) (by omega)) (nI_clamp (n := (4 * j) + 2) (by omega)) ?_
      obtain ⟨fs396, f395⟩ := hI.o2
      refine cl_L_77 rfl rfl dL_law_521 (by decide) (by decide) f395 (Nat.le_of_ble_eq_true rfl) (lc_compare hS hI hc) ?_
      rintro _ h390 _ ⟨rfl, hS391, hI392, hk393, x394, rfl⟩
      have hI401 := hJ.ku hk393
      refine r_pop rfl dL_law_524 rfl ?_
      refine r_aload_n rfl dL_law_525 rfl ?_
      refine r_aload_n rfl dL_law_526 rfl ?_
      refine r_iload_n rfl dL_law_527 rfl ?_
      refine r_iconst (v := 1) rfl dL_law_528 (by decide) ?_
      refine r_iadd rfl dL_law_529 ?_
      refine r_eqi (y := nI ((4 * j) + 1)) (show (nI (4 * j)) + 1 = nI ((4 * j) + 1) from nI_add (4 * j) 1) ?_
      refine r_sld (jn := (4 * j) + 1) rfl dL_law_530 (vp_in_nI (n := (4 * j) + 1) (by omega) (by omega)) (nI_clamp (n := (4 * j) + 1) (by omega)) ?_
      refine r_aload_n rfl dL_law_531 rfl ?_
      refine r_iload_n rfl dL_law_532 rfl ?_
      refine r_iconst (v := 2) rfl dL_law_533 (by decide) ?_
      refine r_iadd rfl dL_law_534 ?_
      refine r_eqi (y := nI ((4 * j) + 2)) (show (nI (4 * j)) + 2 = nI ((4 * j) + 2) from nI_add (4 * j) 2) ?_
      refine r_sld (jn := (4 * j) + 2) rfl dL_law_535 (vp_in_nI (n := (4 * j) + 2) (by omega) (by omega)) (nI_clamp (n := (4 * j) + 2) (by omega)) ?_
      obtain ⟨fs408, f407⟩ := hI401.o5
      refine cl_L_80 rfl rfl dL_law_536 (by decide) (by decide) f407 (Nat.le_of_ble_eq_true rfl) (lm_compare hS391 hI401 hc hm) ?_
      rintro _ h402 _ ⟨rfl, hS403, hI404, hk405, x406, rfl⟩
      have hI413 := hI392.kd hk405
      refine r_pop rfl dL_law_539 rfl ?_
      refine r_goto (pc' := 783) rfl dL_law_540 ?_
      refine r_iinc (y := nI (4 * j + 4)) (ls' := [some (.ref 0), some (.ref 2), some (.ref 420), some (.int (nI (4 * j + 4)))]) rfl dL_law_783 rfl (show nI (4 * j) + Int32.ofInt 4 = nI (4 * j + 4) from nI_add (4 * j) 4) (Nat.le_of_ble_eq_true rfl) rfl ?_
      refine r_goto (pc' := 18) rfl dL_law_786 ?_
      rw [show 4 * j + 4 = 4 * (j + 1) by omega]
      exact ih h402 _ _ _ _ _ hS403 hI413 hI404 hX hc hm
    · refine r_swI (off := 511) (tgt := 543) dL_law_32 rfl c53a c53b (by rw [c53e]; rfl) ?_
      refine r_aload_n rfl dL_law_543 rfl ?_
      refine r_aload_n rfl dL_law_544 rfl ?_
      refine r_iload_n rfl dL_law_545 rfl ?_
      refine r_iconst (v := 1) rfl dL_law_546 (by decide) ?_
      refine r_iadd rfl dL_law_547 ?_
      refine r_eqi (y := nI ((4 * j) + 1)) (show (nI (4 * j)) + 1 = nI ((4 * j) + 1) from nI_add (4 * j) 1) ?_
      refine r_sld (jn := (4 * j) + 1) rfl dL_law_548 (vp_in_nI (n := (4 * j) + 1) (by omega) (by omega)) (nI_clamp (n := (4 * j) + 1) (by omega)) ?_
      obtain ⟨fs420, f419⟩ := hI.o2
      refine cl_L_81 rfl rfl dL_law_549 (by decide) (by decide) f419 (Nat.le_of_ble_eq_true rfl) (lc_bounds hS hI hc) ?_
      rintro _ h414 _ ⟨rfl, hS415, hI416, hk417, x418, rfl⟩
      have hI425 := hJ.ku hk417
      refine r_pop rfl dL_law_552 rfl ?_
      refine r_aload_n rfl dL_law_553 rfl ?_
      refine r_aload_n rfl dL_law_554 rfl ?_
      refine r_iload_n rfl dL_law_555 rfl ?_
      refine r_iconst (v := 1) rfl dL_law_556 (by decide) ?_
      refine r_iadd rfl dL_law_557 ?_
      refine r_eqi (y := nI ((4 * j) + 1)) (show (nI (4 * j)) + 1 = nI ((4 * j) + 1) from nI_add (4 * j) 1) ?_
      refine r_sld (jn := (4 * j) + 1) rfl dL_law_558 (vp_in_nI (n := (4 * j) + 1) (by omega) (by omega)) (nI_clamp (n := (4 * j) + 1) (by omega)) ?_
      obtain ⟨fs432, f431⟩ := hI425.o5
      refine cl_L_84 rfl rfl dL_law_559 (by decide) (by decide) f431 (Nat.le_of_ble_eq_true rfl) (lm_bounds hS415 hI425 hc hm) ?_
      rintro _ h426 _ ⟨rfl, hS427, hI428, hk429, x430, rfl⟩
      have hI437 := hI416.kd hk429
      refine r_pop rfl dL_law_562 rfl ?_
      refine r_goto (pc' := 783) rfl dL_law_563 ?_
      refine r_iinc (y := nI (4 * j + 4)) (ls' := [some (.ref 0), some (.ref 2), some (.ref 420), some (.int (nI (4 * j + 4)))]) rfl dL_law_783 rfl (show nI (4 * j) + Int32.ofInt 4 = nI (4 * j + 4) from nI_add (4 * j) 4) (Nat.le_of_ble_eq_true rfl) rfl ?_
      refine r_goto (pc' := 18) rfl dL_law_786 ?_
      rw [show 4 * j + 4 = 4 * (j + 1) by omega]
      exact ih h426 _ _ _ _ _ hS427 hI437 hI428 hX hc hm
    · refine r_swI (off := 534) (tgt := 566) dL_law_32 rfl c53a c53b (by rw [c53e]; rfl) ?_
      refine r_aload_n rfl dL_law_566 rfl ?_
      refine r_aload_n rfl dL_law_567 rfl ?_
      refine r_iload_n rfl dL_law_568 rfl ?_
      refine r_iconst (v := 1) rfl dL_law_569 (by decide) ?_
      refine r_iadd rfl dL_law_570 ?_
      refine r_eqi (y := nI ((4 * j) + 1)) (show (nI (4 * j)) + 1 = nI ((4 * j) + 1) from nI_add (4 * j) 1) ?_
      refine r_sld (jn := (4 * j) + 1) rfl dL_law_571 (vp_in_nI (n := (4 * j) + 1) (by omega) (by omega)) (nI_clamp (n := (4 * j) + 1) (by omega)) ?_
      obtain ⟨fs444, f443⟩ := hI.o2
      refine cl_L_85 rfl rfl dL_law_572 (by decide) (by decide) f443 (Nat.le_of_ble_eq_true rfl) (lc_fewest hS hI hc) ?_
      rintro _ h438 _ ⟨rfl, hS439, hI440, hk441, x442, rfl⟩
      have hI449 := hJ.ku hk441
      refine r_pop rfl dL_law_575 rfl ?_
      refine r_aload_n rfl dL_law_576 rfl ?_
      refine r_aload_n rfl dL_law_577 rfl ?_
      refine r_iload_n rfl dL_law_578 rfl ?_
      refine r_iconst (v := 1) rfl dL_law_579 (by decide) ?_
      refine r_iadd rfl dL_law_580 ?_
      refine r_eqi (y := nI ((4 * j) + 1)) (show (nI (4 * j)) + 1 = nI ((4 * j) + 1) from nI_add (4 * j) 1) ?_
      refine r_sld (jn := (4 * j) + 1) rfl dL_law_581 (vp_in_nI (n := (4 * j) + 1) (by omega) (by omega)) (nI_clamp (n := (4 * j) + 1) (by omega)) ?_
      obtain ⟨fs456, f455⟩ := hI449.o5
      refine cl_L_88 rfl rfl dL_law_582 (by decide) (by decide) f455 (Nat.le_of_ble_eq_true rfl) (lm_fewest hS439 hI449 hc hm) ?_
      rintro _ h450 _ ⟨rfl, hS451, hI452, hk453, x454, rfl⟩
      have hI461 := hI440.kd hk453
      refine r_pop rfl dL_law_585 rfl ?_
      refine r_goto (pc' := 783) rfl dL_law_586 ?_
      refine r_iinc (y := nI (4 * j + 4)) (ls' := [some (.ref 0), some (.ref 2), some (.ref 420), some (.int (nI (4 * j + 4)))]) rfl dL_law_783 rfl (show nI (4 * j) + Int32.ofInt 4 = nI (4 * j + 4) from nI_add (4 * j) 4) (Nat.le_of_ble_eq_true rfl) rfl ?_
      refine r_goto (pc' := 18) rfl dL_law_786 ?_
      rw [show 4 * j + 4 = 4 * (j + 1) by omega]
      exact ih h450 _ _ _ _ _ hS451 hI461 hI452 hX hc hm
    · refine r_swI (off := 557) (tgt := 589) dL_law_32 rfl c53a c53b (by rw [c53e]; rfl) ?_
      refine r_aload_n rfl dL_law_589 rfl ?_
      refine r_aload_n rfl dL_law_590 rfl ?_
      refine r_iload_n rfl dL_law_591 rfl ?_
      refine r_iconst (v := 1) rfl dL_law_592 (by decide) ?_
      refine r_iadd rfl dL_law_593 ?_
      refine r_eqi (y := nI ((4 * j) + 1)) (show (nI (4 * j)) + 1 = nI ((4 * j) + 1) from nI_add (4 * j) 1) ?_
      refine r_sld (jn := (4 * j) + 1) rfl dL_law_594 (vp_in_nI (n := (4 * j) + 1) (by omega) (by omega)) (nI_clamp (n := (4 * j) + 1) (by omega)) ?_
      refine r_aload_n rfl dL_law_595 rfl ?_
      refine r_iload_n rfl dL_law_596 rfl ?_
      refine r_iconst (v := 2) rfl dL_law_597 (by decide) ?_
      refine r_iadd rfl dL_law_598 ?_
      refine r_eqi (y := nI ((4 * j) + 2)) (show (nI (4 * j)) + 2 = nI ((4 * j) + 2) from nI_add (4 * j) 2) ?_
      refine r_sld (jn := (4 * j) + 2) rfl dL_law_599 (vp_in_nI (n := (4 * j) + 2) (by omega) (by omega)) (nI_clamp (n := (4 * j) + 2) (by omega)) ?_
      obtain ⟨fs468, f467⟩ := hI.o2
      refine cl_L_89 rfl rfl dL_law_600 (by decide) (by decide) f467 (Nat.le_of_ble_eq_true rfl) (lc_tell hS hI hc) ?_
      rintro _ h462 _ ⟨rfl, hS463, hI464, hk465, x466, rfl⟩
      have hI473 := hJ.ku hk465
      refine r_pop rfl dL_law_603 rfl ?_
      refine r_aload_n rfl dL_law_604 rfl ?_
      refine r_aload_n rfl dL_law_605 rfl ?_
      refine r_iload_n rfl dL_law_606 rfl ?_
      refine r_iconst (v := 1) rfl dL_law_607 (by decide) ?_
      refine r_iadd rfl dL_law_608 ?_
      refine r_eqi (y := nI ((4 * j) + 1)) (show (nI (4 * j)) + 1 = nI ((4 * j) + 1) from nI_add (4 * j) 1) ?_
      refine r_sld (jn := (4 * j) + 1) rfl dL_law_609 (vp_in_nI (n := (4 * j) + 1) (by omega) (by omega)) (nI_clamp (n := (4 * j) + 1) (by omega)) ?_
      refine r_aload_n rfl dL_law_610 rfl ?_
      refine r_iload_n rfl dL_law_611 rfl ?_
      refine r_iconst (v := 2) rfl dL_law_612 (by decide) ?_
      refine r_iadd rfl dL_law_613 ?_
      refine r_eqi (y := nI ((4 * j) + 2)) (show (nI (4 * j)) + 2 = nI ((4 * j) + 2) from nI_add (4 * j) 2) ?_
      refine r_sld (jn := (4 * j) + 2) rfl dL_law_614 (vp_in_nI (n := (4 * j) + 2) (by omega) (by omega)) (nI_clamp (n := (4 * j) + 2) (by omega)) ?_
      obtain ⟨fs480, f479⟩ := hI473.o5
      refine cl_L_92 rfl rfl dL_law_615 (by decide) (by decide) f479 (Nat.le_of_ble_eq_true rfl) (lm_tell hS463 hI473 hc hm) ?_
      rintro _ h474 _ ⟨rfl, hS475, hI476, hk477, x478, rfl⟩
      have hI485 := hI464.kd hk477
      refine r_pop rfl dL_law_618 rfl ?_
      refine r_goto (pc' := 783) rfl dL_law_619 ?_
      refine r_iinc (y := nI (4 * j + 4)) (ls' := [some (.ref 0), some (.ref 2), some (.ref 420), some (.int (nI (4 * j + 4)))]) rfl dL_law_783 rfl (show nI (4 * j) + Int32.ofInt 4 = nI (4 * j + 4) from nI_add (4 * j) 4) (Nat.le_of_ble_eq_true rfl) rfl ?_
      refine r_goto (pc' := 18) rfl dL_law_786 ?_
      rw [show 4 * j + 4 = 4 * (j + 1) by omega]
      exact ih h474 _ _ _ _ _ hS475 hI485 hI476 hX hc hm
    · refine r_swI (off := 590) (tgt := 622) dL_law_32 rfl c53a c53b (by rw [c53e]; rfl) ?_
      refine r_aload_n rfl dL_law_622 rfl ?_
      refine r_aload_n rfl dL_law_623 rfl ?_
      refine r_iload_n rfl dL_law_624 rfl ?_
      refine r_iconst (v := 1) rfl dL_law_625 (by decide) ?_
      refine r_iadd rfl dL_law_626 ?_
      refine r_eqi (y := nI ((4 * j) + 1)) (show (nI (4 * j)) + 1 = nI ((4 * j) + 1) from nI_add (4 * j) 1) ?_
      refine r_sld (jn := (4 * j) + 1) rfl dL_law_627 (vp_in_nI (n := (4 * j) + 1) (by omega) (by omega)) (nI_clamp (n := (4 * j) + 1) (by omega)) ?_
      refine r_aload_n rfl dL_law_628 rfl ?_
      refine r_iload_n rfl dL_law_629 rfl ?_
      refine r_iconst (v := 2) rfl dL_law_630 (by decide) ?_
      refine r_iadd rfl dL_law_631 ?_
      refine r_eqi (y := nI ((4 * j) + 2)) (show (nI (4 * j)) + 2 = nI ((4 * j) + 2) from nI_add (4 * j) 2) ?_
      refine r_sld (jn := (4 * j) + 2) rfl dL_law_632 (vp_in_nI (n := (4 * j) + 2) (by omega) (by omega)) (nI_clamp (n := (4 * j) + 2) (by omega)) ?_
      refine r_aload_n rfl dL_law_633 rfl ?_
      refine r_iload_n rfl dL_law_634 rfl ?_
      refine r_iconst (v := 3) rfl dL_law_635 (by decide) ?_
      refine r_iadd rfl dL_law_636 ?_
      refine r_eqi (y := nI ((4 * j) + 3)) (show (nI (4 * j)) + 3 = nI ((4 * j) + 3) from nI_add (4 * j) 3) ?_
      refine r_sld (jn := (4 * j) + 3) rfl dL_law_637 (vp_in_nI (n := (4 * j) + 3) (by omega) (by omega)) (nI_clamp (n := (4 * j) + 3) (by omega)) ?_
      obtain ⟨fs492, f491⟩ := hI.o2
      refine cl_L_93 rfl rfl dL_law_638 (by decide) (by decide) f491 (Nat.le_of_ble_eq_true rfl) (lc_copy hS hI hc) ?_
      rintro _ h486 _ ⟨rfl, hS487, hI488, hk489, x490, rfl⟩
      have hI497 := hJ.ku hk489
      refine r_pop rfl dL_law_641 rfl ?_
      refine r_aload_n rfl dL_law_642 rfl ?_
      refine r_aload_n rfl dL_law_643 rfl ?_
      refine r_iload_n rfl dL_law_644 rfl ?_
      refine r_iconst (v := 1) rfl dL_law_645 (by decide) ?_
      refine r_iadd rfl dL_law_646 ?_
      refine r_eqi (y := nI ((4 * j) + 1)) (show (nI (4 * j)) + 1 = nI ((4 * j) + 1) from nI_add (4 * j) 1) ?_
      refine r_sld (jn := (4 * j) + 1) rfl dL_law_647 (vp_in_nI (n := (4 * j) + 1) (by omega) (by omega)) (nI_clamp (n := (4 * j) + 1) (by omega)) ?_
      refine r_aload_n rfl dL_law_648 rfl ?_
      refine r_iload_n rfl dL_law_649 rfl ?_
      refine r_iconst (v := 2) rfl dL_law_650 (by decide) ?_
      refine r_iadd rfl dL_law_651 ?_
      refine r_eqi (y := nI ((4 * j) + 2)) (show (nI (4 * j)) + 2 = nI ((4 * j) + 2) from nI_add (4 * j) 2) ?_
      refine r_sld (jn := (4 * j) + 2) rfl dL_law_652 (vp_in_nI (n := (4 * j) + 2) (by omega) (by omega)) (nI_clamp (n := (4 * j) + 2) (by omega)) ?_
      refine r_aload_n rfl dL_law_653 rfl ?_
      refine r_iload_n rfl dL_law_654 rfl ?_
      refine r_iconst (v := 3) rfl dL_law_655 (by decide) ?_
      refine r_iadd rfl dL_law_656 ?_
      refine r_eqi (y := nI ((4 * j) + 3)) (show (nI (4 * j)) + 3 = nI ((4 * j) + 3) from nI_add (4 * j) 3) ?_
      refine r_sld (jn := (4 * j) + 3) rfl dL_law_657 (vp_in_nI (n := (4 * j) + 3) (by omega) (by omega)) (nI_clamp (n := (4 * j) + 3) (by omega)) ?_
      obtain ⟨fs504, f503⟩ := hI497.o5
      refine cl_L_96 rfl rfl dL_law_658 (by decide) (by decide) f503 (Nat.le_of_ble_eq_true rfl) (lm_copy hS487 hI497 hc hm) ?_
      rintro _ h498 _ ⟨rfl, hS499, hI500, hk501, x502, rfl⟩
      have hI509 := hI488.kd hk501
      refine r_pop rfl dL_law_661 rfl ?_
      refine r_goto (pc' := 783) rfl dL_law_662 ?_
      refine r_iinc (y := nI (4 * j + 4)) (ls' := [some (.ref 0), some (.ref 2), some (.ref 420), some (.int (nI (4 * j + 4)))]) rfl dL_law_783 rfl (show nI (4 * j) + Int32.ofInt 4 = nI (4 * j + 4) from nI_add (4 * j) 4) (Nat.le_of_ble_eq_true rfl) rfl ?_
      refine r_goto (pc' := 18) rfl dL_law_786 ?_
      rw [show 4 * j + 4 = 4 * (j + 1) by omega]
      exact ih h498 _ _ _ _ _ hS499 hI509 hI500 hX hc hm
    · refine r_swI (off := 633) (tgt := 665) dL_law_32 rfl c53a c53b (by rw [c53e]; rfl) ?_
      refine r_aload_n rfl dL_law_665 rfl ?_
      obtain ⟨fs516, f515⟩ := hI.o2
      refine cl_L_97 rfl rfl dL_law_666 (by decide) (by decide) f515 (Nat.le_of_ble_eq_true rfl) (lc_check hS hI hc) ?_
      rintro _ h510 _ ⟨rfl, hS511, hI512, hk513, x514, rfl⟩
      have hI521 := hJ.ku hk513
      refine r_pop rfl dL_law_669 rfl ?_
      refine r_aload_n rfl dL_law_670 rfl ?_
      obtain ⟨fs528, f527⟩ := hI521.o5
      refine cl_L_100 rfl rfl dL_law_671 (by decide) (by decide) f527 (Nat.le_of_ble_eq_true rfl) (lm_check hS511 hI521 hc hm) ?_
      rintro _ h522 _ ⟨rfl, hS523, hI524, hk525, x526, rfl⟩
      have hI533 := hI512.kd hk525
      refine r_pop rfl dL_law_674 rfl ?_
      refine r_goto (pc' := 783) rfl dL_law_675 ?_
      refine r_iinc (y := nI (4 * j + 4)) (ls' := [some (.ref 0), some (.ref 2), some (.ref 420), some (.int (nI (4 * j + 4)))]) rfl dL_law_783 rfl (show nI (4 * j) + Int32.ofInt 4 = nI (4 * j + 4) from nI_add (4 * j) 4) (Nat.le_of_ble_eq_true rfl) rfl ?_
      refine r_goto (pc' := 18) rfl dL_law_786 ?_
      rw [show 4 * j + 4 = 4 * (j + 1) by omega]
      exact ih h522 _ _ _ _ _ hS523 hI533 hI524 hX hc hm
    · refine r_swI (off := 646) (tgt := 678) dL_law_32 rfl c53a c53b (by rw [c53e]; rfl) ?_
      refine r_aload_n rfl dL_law_678 rfl ?_
      obtain ⟨fs540, f539⟩ := hI.o2
      refine cl_L_101 rfl rfl dL_law_679 (by decide) (by decide) f539 (Nat.le_of_ble_eq_true rfl) (lc_used hS hI hc) ?_
      rintro _ h534 _ ⟨rfl, hS535, hI536, hk537, x538, rfl⟩
      have hI545 := hJ.ku hk537
      refine r_pop rfl dL_law_682 rfl ?_
      refine r_aload_n rfl dL_law_683 rfl ?_
      obtain ⟨fs552, f551⟩ := hI545.o5
      refine cl_L_104 rfl rfl dL_law_684 (by decide) (by decide) f551 (Nat.le_of_ble_eq_true rfl) (lm_used hS535 hI545 hc hm) ?_
      rintro _ h546 _ ⟨rfl, hS547, hI548, hk549, x550, rfl⟩
      have hI557 := hI536.kd hk549
      refine r_pop rfl dL_law_687 rfl ?_
      refine r_goto (pc' := 783) rfl dL_law_688 ?_
      refine r_iinc (y := nI (4 * j + 4)) (ls' := [some (.ref 0), some (.ref 2), some (.ref 420), some (.int (nI (4 * j + 4)))]) rfl dL_law_783 rfl (show nI (4 * j) + Int32.ofInt 4 = nI (4 * j + 4) from nI_add (4 * j) 4) (Nat.le_of_ble_eq_true rfl) rfl ?_
      refine r_goto (pc' := 18) rfl dL_law_786 ?_
      rw [show 4 * j + 4 = 4 * (j + 1) by omega]
      exact ih h546 _ _ _ _ _ hS547 hI557 hI548 hX hc hm
    · refine r_swI (off := 659) (tgt := 691) dL_law_32 rfl c53a c53b (by rw [c53e]; rfl) ?_
      refine r_aload_n rfl dL_law_691 rfl ?_
      refine r_aload_n rfl dL_law_692 rfl ?_
      refine r_iload_n rfl dL_law_693 rfl ?_
      refine r_iconst (v := 1) rfl dL_law_694 (by decide) ?_
      refine r_iadd rfl dL_law_695 ?_
      refine r_eqi (y := nI ((4 * j) + 1)) (show (nI (4 * j)) + 1 = nI ((4 * j) + 1) from nI_add (4 * j) 1) ?_
      refine r_sld (jn := (4 * j) + 1) rfl dL_law_696 (vp_in_nI (n := (4 * j) + 1) (by omega) (by omega)) (nI_clamp (n := (4 * j) + 1) (by omega)) ?_
      obtain ⟨fs564, f563⟩ := hI.o2
      refine cl_L_105 rfl rfl dL_law_697 (by decide) (by decide) f563 (Nat.le_of_ble_eq_true rfl) (lc_needed hS hI hc) ?_
      rintro _ h558 _ ⟨rfl, hS559, hI560, hk561, x562, rfl⟩
      have hI569 := hJ.ku hk561
      refine r_pop rfl dL_law_700 rfl ?_
      refine r_aload_n rfl dL_law_701 rfl ?_
      refine r_aload_n rfl dL_law_702 rfl ?_
      refine r_iload_n rfl dL_law_703 rfl ?_
      refine r_iconst (v := 1) rfl dL_law_704 (by decide) ?_
      refine r_iadd rfl dL_law_705 ?_
      refine r_eqi (y := nI ((4 * j) + 1)) (show (nI (4 * j)) + 1 = nI ((4 * j) + 1) from nI_add (4 * j) 1) ?_
      refine r_sld (jn := (4 * j) + 1) rfl dL_law_706 (vp_in_nI (n := (4 * j) + 1) (by omega) (by omega)) (nI_clamp (n := (4 * j) + 1) (by omega)) ?_
      obtain ⟨fs576, f575⟩ := hI569.o5
      refine cl_L_108 rfl rfl dL_law_707 (by decide) (by decide) f575 (Nat.le_of_ble_eq_true rfl) (lm_needed hS559 hI569 hc hm) ?_
      rintro _ h570 _ ⟨rfl, hS571, hI572, hk573, x574, rfl⟩
      have hI581 := hI560.kd hk573
      refine r_pop rfl dL_law_710 rfl ?_
      refine r_goto (pc' := 783) rfl dL_law_711 ?_
      refine r_iinc (y := nI (4 * j + 4)) (ls' := [some (.ref 0), some (.ref 2), some (.ref 420), some (.int (nI (4 * j + 4)))]) rfl dL_law_783 rfl (show nI (4 * j) + Int32.ofInt 4 = nI (4 * j + 4) from nI_add (4 * j) 4) (Nat.le_of_ble_eq_true rfl) rfl ?_
      refine r_goto (pc' := 18) rfl dL_law_786 ?_
      rw [show 4 * j + 4 = 4 * (j + 1) by omega]
      exact ih h570 _ _ _ _ _ hS571 hI581 hI572 hX hc hm
    · refine r_swI (off := 682) (tgt := 714) dL_law_32 rfl c53a c53b (by rw [c53e]; rfl) ?_
      refine r_aload_n rfl dL_law_714 rfl ?_
      refine r_aload_n rfl dL_law_715 rfl ?_
      refine r_iload_n rfl dL_law_716 rfl ?_
      refine r_iconst (v := 1) rfl dL_law_717 (by decide) ?_
      refine r_iadd rfl dL_law_718 ?_
      refine r_eqi (y := nI ((4 * j) + 1)) (show (nI (4 * j)) + 1 = nI ((4 * j) + 1) from nI_add (4 * j) 1) ?_
      refine r_sld (jn := (4 * j) + 1) rfl dL_law_719 (vp_in_nI (n := (4 * j) + 1) (by omega) (by omega)) (nI_clamp (n := (4 * j) + 1) (by omega)) ?_
      refine r_aload_n rfl dL_law_720 rfl ?_
      refine r_iload_n rfl dL_law_721 rfl ?_
      refine r_iconst (v := 2) rfl dL_law_722 (by decide) ?_
      refine r_iadd rfl dL_law_723 ?_
      refine r_eqi (y := nI ((4 * j) + 2)) (show (nI (4 * j)) + 2 = nI ((4 * j) + 2) from nI_add (4 * j) 2) ?_
      refine r_sld (jn := (4 * j) + 2) rfl dL_law_724 (vp_in_nI (n := (4 * j) + 2) (by omega) (by omega)) (nI_clamp (n := (4 * j) + 2) (by omega)) ?_
      obtain ⟨fs588, f587⟩ := hI.o2
      refine cl_L_109 rfl rfl dL_law_725 (by decide) (by decide) f587 (Nat.le_of_ble_eq_true rfl) (lc_labour hS hI hc) ?_
      rintro _ h582 _ ⟨rfl, hS583, hI584, hk585, x586, rfl⟩
      have hI593 := hJ.ku hk585
      refine r_pop rfl dL_law_728 rfl ?_
      refine r_aload_n rfl dL_law_729 rfl ?_
      refine r_aload_n rfl dL_law_730 rfl ?_
      refine r_iload_n rfl dL_law_731 rfl ?_
      refine r_iconst (v := 1) rfl dL_law_732 (by decide) ?_
      refine r_iadd rfl dL_law_733 ?_
      refine r_eqi (y := nI ((4 * j) + 1)) (show (nI (4 * j)) + 1 = nI ((4 * j) + 1) from nI_add (4 * j) 1) ?_
      refine r_sld (jn := (4 * j) + 1) rfl dL_law_734 (vp_in_nI (n := (4 * j) + 1) (by omega) (by omega)) (nI_clamp (n := (4 * j) + 1) (by omega)) ?_
      refine r_aload_n rfl dL_law_735 rfl ?_
      refine r_iload_n rfl dL_law_736 rfl ?_
      refine r_iconst (v := 2) rfl dL_law_737 (by decide) ?_
      refine r_iadd rfl dL_law_738 ?_
      refine r_eqi (y := nI ((4 * j) + 2)) (show (nI (4 * j)) + 2 = nI ((4 * j) + 2) from nI_add (4 * j) 2) ?_
      refine r_sld (jn := (4 * j) + 2) rfl dL_law_739 (vp_in_nI (n := (4 * j) + 2) (by omega) (by omega)) (nI_clamp (n := (4 * j) + 2) (by omega)) ?_
      obtain ⟨fs600, f599⟩ := hI593.o5
      refine cl_L_112 rfl rfl dL_law_740 (by decide) (by decide) f599 (Nat.le_of_ble_eq_true rfl) (lm_labour hS583 hI593 hc hm) ?_
      rintro _ h594 _ ⟨rfl, hS595, hI596, hk597, x598, rfl⟩
      have hI605 := hI584.kd hk597
      refine r_pop rfl dL_law_743 rfl ?_
      refine r_goto (pc' := 783) rfl dL_law_744 ?_
      refine r_iinc (y := nI (4 * j + 4)) (ls' := [some (.ref 0), some (.ref 2), some (.ref 420), some (.int (nI (4 * j + 4)))]) rfl dL_law_783 rfl (show nI (4 * j) + Int32.ofInt 4 = nI (4 * j + 4) from nI_add (4 * j) 4) (Nat.le_of_ble_eq_true rfl) rfl ?_
      refine r_goto (pc' := 18) rfl dL_law_786 ?_
      rw [show 4 * j + 4 = 4 * (j + 1) by omega]
      exact ih h594 _ _ _ _ _ hS595 hI605 hI596 hX hc hm
    · refine r_swI (off := 715) (tgt := 747) dL_law_32 rfl c53a c53b (by rw [c53e]; rfl) ?_
      refine r_aload_n rfl dL_law_747 rfl ?_
      refine r_aload_n rfl dL_law_748 rfl ?_
      refine r_iload_n rfl dL_law_749 rfl ?_
      refine r_iconst (v := 1) rfl dL_law_750 (by decide) ?_
      refine r_iadd rfl dL_law_751 ?_
      refine r_eqi (y := nI ((4 * j) + 1)) (show (nI (4 * j)) + 1 = nI ((4 * j) + 1) from nI_add (4 * j) 1) ?_
      refine r_sld (jn := (4 * j) + 1) rfl dL_law_752 (vp_in_nI (n := (4 * j) + 1) (by omega) (by omega)) (nI_clamp (n := (4 * j) + 1) (by omega)) ?_
      obtain ⟨fs612, f611⟩ := hI.o2
      refine cl_L_113 rfl rfl dL_law_753 (by decide) (by decide) f611 (Nat.le_of_ble_eq_true rfl) (lc_count hS hI hc) ?_
      rintro _ h606 _ ⟨rfl, hS607, hI608, hk609, x610, rfl⟩
      have hI617 := hJ.ku hk609
      refine r_pop rfl dL_law_756 rfl ?_
      refine r_aload_n rfl dL_law_757 rfl ?_
      refine r_aload_n rfl dL_law_758 rfl ?_
      refine r_iload_n rfl dL_law_759 rfl ?_
      refine r_iconst (v := 1) rfl dL_law_760 (by decide) ?_
      refine r_iadd rfl dL_law_761 ?_
      refine r_eqi (y := nI ((4 * j) + 1)) (show (nI (4 * j)) + 1 = nI ((4 * j) + 1) from nI_add (4 * j) 1) ?_
      refine r_sld (jn := (4 * j) + 1) rfl dL_law_762 (vp_in_nI (n := (4 * j) + 1) (by omega) (by omega)) (nI_clamp (n := (4 * j) + 1) (by omega)) ?_
      obtain ⟨fs624, f623⟩ := hI617.o5
      refine cl_L_116 rfl rfl dL_law_763 (by decide) (by decide) f623 (Nat.le_of_ble_eq_true rfl) (lm_count hS607 hI617 hc hm) ?_
      rintro _ h618 _ ⟨rfl, hS619, hI620, hk621, x622, rfl⟩
      have hI629 := hI608.kd hk621
      refine r_pop rfl dL_law_766 rfl ?_
      refine r_goto (pc' := 783) rfl dL_law_767 ?_
      refine r_iinc (y := nI (4 * j + 4)) (ls' := [some (.ref 0), some (.ref 2), some (.ref 420), some (.int (nI (4 * j + 4)))]) rfl dL_law_783 rfl (show nI (4 * j) + Int32.ofInt 4 = nI (4 * j + 4) from nI_add (4 * j) 4) (Nat.le_of_ble_eq_true rfl) rfl ?_
      refine r_goto (pc' := 18) rfl dL_law_786 ?_
      rw [show 4 * j + 4 = 4 * (j + 1) by omega]
      exact ih h618 _ _ _ _ _ hS619 hI629 hI620 hX hc hm
    · refine r_swI (off := 738) (tgt := 770) dL_law_32 rfl c53a c53b (by rw [c53e]; rfl) ?_
      refine r_aload_n rfl dL_law_770 rfl ?_
      obtain ⟨fs636, f635⟩ := hI.o2
      refine cl_L_117 rfl rfl dL_law_771 (by decide) (by decide) f635 (Nat.le_of_ble_eq_true rfl) (lc_trace hS hI hc) ?_
      rintro _ h630 _ ⟨rfl, hS631, hI632, hk633, x634, rfl⟩
      have hI641 := hJ.ku hk633
      refine r_pop2 rfl dL_law_774 rfl ?_
      refine r_aload_n rfl dL_law_775 rfl ?_
      obtain ⟨fs648, f647⟩ := hI641.o5
      refine cl_L_121 rfl rfl dL_law_776 (by decide) (by decide) f647 (Nat.le_of_ble_eq_true rfl) (lm_trace hS631 hI641 hc hm) ?_
      rintro _ h642 _ ⟨rfl, hS643, hI644, hk645, x646, rfl⟩
      have hI653 := hI632.kd hk645
      refine r_pop2 rfl dL_law_779 rfl ?_
      refine r_goto (pc' := 783) rfl dL_law_780 ?_
      refine r_iinc (y := nI (4 * j + 4)) (ls' := [some (.ref 0), some (.ref 2), some (.ref 420), some (.int (nI (4 * j + 4)))]) rfl dL_law_783 rfl (show nI (4 * j) + Int32.ofInt 4 = nI (4 * j + 4) from nI_add (4 * j) 4) (Nat.le_of_ble_eq_true rfl) rfl ?_
      refine r_goto (pc' := 18) rfl dL_law_786 ?_
      rw [show 4 * j + 4 = 4 * (j + 1) by omega]
      exact ih h642 _ _ _ _ _ hS643 hI653 hI644 hX hc hm
set_option maxRecDepth 20000 in
theorem law_end {xs : Nat → Int32} {L d kc ks : Nat} {h : ev_H} {j : Nat} (hL : L ≤ 2048 ∧ 4 * j ≤ L + 4) (hj : L < 4 * j + 4) : EV xs L (d + 23) kc ks M_L_law 434 h 18 [some (.ref 0), some (.ref 2), some (.ref 420), some (.int (nI (4 * j)))] [] (fun _ _ r => r = [.int 1]) := by
  refine r_iload_n rfl dL_law_18 rfl ?_
  refine r_aload_n rfl dL_law_19 rfl ?_
  refine r_slen rfl dL_law_20 ?_
  refine r_iconst (v := 4) rfl dL_law_21 (by decide) ?_
  refine r_isub rfl dL_law_22 ?_
  refine r_icmp_gt (tgt := 789) rfl rfl dL_law_23 (fun _ => ?_) (fun zc => absurd (law_out hL hj) zc)
  refine r_iconst (v := 1) rfl dL_law_789 (by decide) ?_
  exact r_ret dL_law_790 (rt_z rfl (Or.inr rfl)) rfl
theorem law_loop {xs : Nat → Int32} {L d kc ks : Nat} (hL : L ≤ 2048) : ∀ (t j : Nat) (h : ev_H) (n c m : Nat) (f g : Nat → Int32), L < 4 * j + 4 * t + 4 → 4 * j ≤ L + 4 → SH h → ICs n c f h → IMs n c m g h → TXR f g n → c ≤ 16 → m ≤ 24 → EV xs L (d + 23) kc ks M_L_law 434 h 18 [some (.ref 0), some (.ref 2), some (.ref 420), some (.int (nI (4 * j)))] [] (fun _ _ r => r = [.int 1]) := by
  intro t
  induction t with
  | zero => intro j h n c m f g ht hj hS hI hJ hX hc hm; exact law_end ⟨hL, hj⟩ (by omega)
  | succ t ih =>
    intro j h n c m f g ht hj hS hI hJ hX hc hm
    by_cases hz : 4 * j + 4 ≤ L
    · exact law_step hS hI hJ hX hc hm hL hz (fun h' n' c' m' f' g' q1 q2 q3 q4 q5 q6 => ih (j + 1) h' n' c' m' f' g' (by omega) (by omega) q1 q2 q3 q4 q5 q6)
    · exact law_end ⟨hL, hj⟩ (by omega)
set_option maxRecDepth 20000 in
set_option maxHeartbeats 1000000 in
theorem law_body {xs : Nat → Int32} {L d : Nat} {h : ev_H}  (hW : WTH h) (hL : L ≤ 2048) : EV xs L (d + 23) (600000) (7302250) M_L_law (2) h 0 [some (.ref 0), none, none, none] [] (fun sz' h' r => r = [.int 1]) := by
  refine r_bud (kc' := 599999 + 1) (ks' := 7302234 + 16) (by omega) (by omega) ?_
  refine k_new 11 (fs := [.null, .null, .null, .null, .null, .null, .null, .null, .null, .null, .null, .int 0, .int 0, .int 0, .int 0, .int 0]) rfl dL_law_0 hW rfl rfl lk_L_7 lt_X11 lz_X11 rfl (fun h51 hW52 hk53 f54 => ?_)
  have K55 : KL (2) h h51 := KL_tr (by omega) (KL_rf (2) h) hk53
  refine r_dup rfl dL_law_3 rfl ?_
  refine r_bud (kc' := 417 + (599582)) (ks' := 1924 + (7300310)) (by omega) (by omega) ?_
  refine cl_L_9 rfl rfl dL_law_4 (Nat.le_of_ble_eq_true rfl) (s_X11_init hW52 f54) ?_
  rintro _ h56 _ ⟨rfl, hW57, hk58, B59, f60, f61, f62, f63, rfl⟩
  have K64 : KL (2) h h56 := KL_tr (by omega) K55 hk58
  refine r_astore_n (ls' := [some (.ref 0), some (.ref 2), none, none]) rfl dL_law_7 (Nat.le_of_ble_eq_true rfl) rfl ?_
  refine r_bud (kc' := 599581 + 1) (ks' := 7300285 + 25) (by omega) (by omega) ?_
  refine k_new 12 (fs := [.int 0, .long 0, .null, .int 0, .int 0, .int 0, .int 0, .int 0, .int 0, .int 0, .int 0, .int 0, .int 0, .null, .null, .null, .null, .null, .null, .null, .null, .null, .null, .null, .null]) rfl dL_law_8 hW57 rfl rfl lk_L_10 lt_X12 lz_X12 rfl (fun h65 hW66 hk67 f68 => ?_)
  have f69 : h65 (2) = c2 0 0 0 (-9) (-9) := (hk67 (2) (by omega)).trans f60
  have f70 : h65 (3) = c3 0 0 0 0 0 := (hk67 (3) (by omega)).trans f61
  have f71 : h65 (4) = c4 (fun _ => 0) := (hk67 (4) (by omega)).trans f62
  have f72 : h65 (24) = c24 0 0 0 0 := (hk67 (24) (by omega)).trans f63
  have B73 : BT (2) (420) h65 := BT_kl B59 hk67 (by omega)
  have K74 : KL (2) h h65 := KL_tr (by omega) K64 hk67
  refine r_dup rfl dL_law_11 rfl ?_
  refine r_bud (kc' := 13 + (599568)) (ks' := 1329 + (7298956)) (by omega) (by omega) ?_
  refine cl_L_12 rfl rfl dL_law_12 (Nat.le_of_ble_eq_true rfl) (s_X12_init hW66 f68 B73) ?_
  rintro _ h75 _ ⟨rfl, hS76, hk77, f78, f79, rfl⟩
  refine r_astore_n (ls' := [some (.ref 0), some (.ref 2), some (.ref 420), none]) rfl dL_law_15 (Nat.le_of_ble_eq_true rfl) rfl ?_
  refine r_iconst (v := 0) rfl dL_law_16 (by decide) ?_
  refine r_istore_n (ls' := [some (.ref 0), some (.ref 2), some (.ref 420), some (.int 0)]) rfl dL_law_17 (Nat.le_of_ble_eq_true rfl) rfl ?_
  refine law_loop hL L 0 h75 0 0 0 (fun _ => 0) (fun _ => 0) (by omega) (by omega) hS76 ⟨⟨_, _, _, _, ((hk77 2 (by decide)).trans f69)⟩, ⟨_, _, _, _, ((hk77 3 (by decide)).trans f70)⟩, ((hk77 4 (by decide)).trans f71), ⟨0, by decide, _, _, _, ((hk77 24 (by decide)).trans f72)⟩⟩ ⟨⟨_, _, _, _, _, _, _, _, _, f78⟩, f79⟩ (TXR_0 _ _) (by decide) (by decide)
theorem law_EV {xs : Nat → Int32} {L : Nat} (hL : L ≤ 2048) : EV xs L 23 600000 7302250 M_law 2 (fun _ => .inl (0, 0, .inl (fun _ => 0))) 0 (ev_en [.ref 0] 4) [] (fun _ _ r => r = [.int 1]) := law_body (d := 0) (fun _ => trivial) hL
