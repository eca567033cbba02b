theorem dX11_init_0 : decode cX11_init 0 = .ok (.aload_n 0, 1) := by decide +kernel
theorem dX11_init_1 : decode cX11_init 1 = .ok (.invokespecial 3, 3) := by decide +kernel
theorem dX11_init_4 : decode cX11_init 4 = .ok (.aload_n 0, 1) := by decide +kernel
theorem dX11_init_5 : decode cX11_init 5 = .ok (.new 9, 3) := by decide +kernel
theorem dX11_init_8 : decode cX11_init 8 = .ok (.dup, 1) := by decide +kernel
theorem dX11_init_9 : decode cX11_init 9 = .ok (.invokespecial 11, 3) := by decide +kernel
theorem dX11_init_12 : decode cX11_init 12 = .ok (.putfield 12, 3) := by decide +kernel
theorem dX11_init_15 : decode cX11_init 15 = .ok (.aload_n 0, 1) := by decide +kernel
theorem dX11_init_16 : decode cX11_init 16 = .ok (.new 16, 3) := by decide +kernel
theorem dX11_init_19 : decode cX11_init 19 = .ok (.dup, 1) := by decide +kernel
theorem dX11_init_20 : decode cX11_init 20 = .ok (.invokespecial 18, 3) := by decide +kernel
theorem dX11_init_23 : decode cX11_init 23 = .ok (.putfield 19, 3) := by decide +kernel
theorem dX11_init_26 : decode cX11_init 26 = .ok (.aload_n 0, 1) := by decide +kernel
theorem dX11_init_27 : decode cX11_init 27 = .ok (.bipush 40, 2) := by decide +kernel
theorem dX11_init_29 : decode cX11_init 29 = .ok (.anewarray 23, 3) := by decide +kernel
theorem dX11_init_32 : decode cX11_init 32 = .ok (.putfield 25, 3) := by decide +kernel
theorem dX11_init_35 : decode cX11_init 35 = .ok (.aload_n 0, 1) := by decide +kernel
theorem dX11_init_36 : decode cX11_init 36 = .ok (.new 29, 3) := by decide +kernel
theorem dX11_init_39 : decode cX11_init 39 = .ok (.dup, 1) := by decide +kernel
theorem dX11_init_40 : decode cX11_init 40 = .ok (.invokespecial 31, 3) := by decide +kernel
theorem dX11_init_43 : decode cX11_init 43 = .ok (.putfield 32, 3) := by decide +kernel
theorem dX11_init_46 : decode cX11_init 46 = .ok (.aload_n 0, 1) := by decide +kernel
theorem dX11_init_47 : decode cX11_init 47 = .ok (.new 36, 3) := by decide +kernel
theorem dX11_init_50 : decode cX11_init 50 = .ok (.dup, 1) := by decide +kernel
theorem dX11_init_51 : decode cX11_init 51 = .ok (.invokespecial 38, 3) := by decide +kernel
theorem dX11_init_54 : decode cX11_init 54 = .ok (.putfield 39, 3) := by decide +kernel
theorem dX11_init_57 : decode cX11_init 57 = .ok (.aload_n 0, 1) := by decide +kernel
theorem dX11_init_58 : decode cX11_init 58 = .ok (.new 43, 3) := by decide +kernel
theorem dX11_init_61 : decode cX11_init 61 = .ok (.dup, 1) := by decide +kernel
theorem dX11_init_62 : decode cX11_init 62 = .ok (.invokespecial 45, 3) := by decide +kernel
theorem dX11_init_65 : decode cX11_init 65 = .ok (.putfield 46, 3) := by decide +kernel
theorem dX11_init_68 : decode cX11_init 68 = .ok (.aload_n 0, 1) := by decide +kernel
theorem dX11_init_69 : decode cX11_init 69 = .ok (.new 50, 3) := by decide +kernel
theorem dX11_init_72 : decode cX11_init 72 = .ok (.dup, 1) := by decide +kernel
theorem dX11_init_73 : decode cX11_init 73 = .ok (.invokespecial 52, 3) := by decide +kernel
theorem dX11_init_76 : decode cX11_init 76 = .ok (.putfield 53, 3) := by decide +kernel
theorem dX11_init_79 : decode cX11_init 79 = .ok (.aload_n 0, 1) := by decide +kernel
theorem dX11_init_80 : decode cX11_init 80 = .ok (.new 57, 3) := by decide +kernel
theorem dX11_init_83 : decode cX11_init 83 = .ok (.dup, 1) := by decide +kernel
theorem dX11_init_84 : decode cX11_init 84 = .ok (.invokespecial 59, 3) := by decide +kernel
theorem dX11_init_87 : decode cX11_init 87 = .ok (.putfield 60, 3) := by decide +kernel
theorem dX11_init_90 : decode cX11_init 90 = .ok (.aload_n 0, 1) := by decide +kernel
theorem dX11_init_91 : decode cX11_init 91 = .ok (.new 64, 3) := by decide +kernel
theorem dX11_init_94 : decode cX11_init 94 = .ok (.dup, 1) := by decide +kernel
theorem dX11_init_95 : decode cX11_init 95 = .ok (.invokespecial 66, 3) := by decide +kernel
theorem dX11_init_98 : decode cX11_init 98 = .ok (.putfield 67, 3) := by decide +kernel
theorem dX11_init_101 : decode cX11_init 101 = .ok (.aload_n 0, 1) := by decide +kernel
theorem dX11_init_102 : decode cX11_init 102 = .ok (.new 70, 3) := by decide +kernel
theorem dX11_init_105 : decode cX11_init 105 = .ok (.dup, 1) := by decide +kernel
theorem dX11_init_106 : decode cX11_init 106 = .ok (.invokespecial 72, 3) := by decide +kernel
theorem dX11_init_109 : decode cX11_init 109 = .ok (.putfield 73, 3) := by decide +kernel
theorem dX11_init_112 : decode cX11_init 112 = .ok (.aload_n 0, 1) := by decide +kernel
theorem dX11_init_113 : decode cX11_init 113 = .ok (.new 76, 3) := by decide +kernel
theorem dX11_init_116 : decode cX11_init 116 = .ok (.dup, 1) := by decide +kernel
theorem dX11_init_117 : decode cX11_init 117 = .ok (.invokespecial 78, 3) := by decide +kernel
theorem dX11_init_120 : decode cX11_init 120 = .ok (.putfield 79, 3) := by decide +kernel
theorem dX11_init_123 : decode cX11_init 123 = .ok (.aload_n 0, 1) := by decide +kernel
theorem dX11_init_124 : decode cX11_init 124 = .ok (.bipush (-9), 2) := by decide +kernel
theorem dX11_init_126 : decode cX11_init 126 = .ok (.putfield 82, 3) := by decide +kernel
theorem dX11_init_129 : decode cX11_init 129 = .ok (.aload_n 0, 1) := by decide +kernel
theorem dX11_init_130 : decode cX11_init 130 = .ok (.bipush (-9), 2) := by decide +kernel
theorem dX11_init_132 : decode cX11_init 132 = .ok (.putfield 86, 3) := by decide +kernel
theorem dX11_init_135 : decode cX11_init 135 = .ok (.iconst 0, 1) := by decide +kernel
theorem dX11_init_136 : decode cX11_init 136 = .ok (.istore_n 1, 1) := by decide +kernel
theorem dX11_init_137 : decode cX11_init 137 = .ok (.iload_n 1, 1) := by decide +kernel
theorem dX11_init_138 : decode cX11_init 138 = .ok (.aload_n 0, 1) := by decide +kernel
theorem dX11_init_139 : decode cX11_init 139 = .ok (.getfield 25, 3) := by decide +kernel
theorem dX11_init_142 : decode cX11_init 142 = .ok (.arraylength, 1) := by decide +kernel
theorem dX11_init_143 : decode cX11_init 143 = .ok (.if_icmp .ge 22, 3) := by decide +kernel
theorem dX11_init_146 : decode cX11_init 146 = .ok (.aload_n 0, 1) := by decide +kernel
theorem dX11_init_147 : decode cX11_init 147 = .ok (.getfield 25, 3) := by decide +kernel
theorem dX11_init_150 : decode cX11_init 150 = .ok (.iload_n 1, 1) := by decide +kernel
theorem dX11_init_151 : decode cX11_init 151 = .ok (.new 23, 3) := by decide +kernel
theorem dX11_init_154 : decode cX11_init 154 = .ok (.dup, 1) := by decide +kernel
theorem dX11_init_155 : decode cX11_init 155 = .ok (.invokespecial 89, 3) := by decide +kernel
theorem dX11_init_158 : decode cX11_init 158 = .ok (.aastore, 1) := by decide +kernel
theorem dX11_init_159 : decode cX11_init 159 = .ok (.iinc 1 1, 3) := by decide +kernel
theorem dX11_init_162 : decode cX11_init 162 = .ok (.goto (-25), 3) := by decide +kernel
theorem dX11_init_165 : decode cX11_init 165 = .ok (.return_, 1) := by decide +kernel
theorem dX12_init_0 : decode cX12_init 0 = .ok (.aload_n 0, 1) := by decide +kernel
theorem dX12_init_1 : decode cX12_init 1 = .ok (.invokespecial 1, 3) := by decide +kernel
theorem dX12_init_4 : decode cX12_init 4 = .ok (.aload_n 0, 1) := by decide +kernel
theorem dX12_init_5 : decode cX12_init 5 = .ok (.sipush 300, 3) := by decide +kernel
theorem dX12_init_8 : decode cX12_init 8 = .ok (.newarray .int, 2) := by decide +kernel
theorem dX12_init_10 : decode cX12_init 10 = .ok (.putfield 7, 3) := by decide +kernel
theorem dX12_init_13 : decode cX12_init 13 = .ok (.aload_n 0, 1) := by decide +kernel
theorem dX12_init_14 : decode cX12_init 14 = .ok (.bipush (-9), 2) := by decide +kernel
theorem dX12_init_16 : decode cX12_init 16 = .ok (.putfield 13, 3) := by decide +kernel
theorem dX12_init_19 : decode cX12_init 19 = .ok (.aload_n 0, 1) := by decide +kernel
theorem dX12_init_20 : decode cX12_init 20 = .ok (.sipush 240, 3) := by decide +kernel
theorem dX12_init_23 : decode cX12_init 23 = .ok (.newarray .int, 2) := by decide +kernel
theorem dX12_init_25 : decode cX12_init 25 = .ok (.putfield 17, 3) := by decide +kernel
theorem dX12_init_28 : decode cX12_init 28 = .ok (.aload_n 0, 1) := by decide +kernel
theorem dX12_init_29 : decode cX12_init 29 = .ok (.bipush 48, 2) := by decide +kernel
theorem dX12_init_31 : decode cX12_init 31 = .ok (.newarray .int, 2) := by decide +kernel
theorem dX12_init_33 : decode cX12_init 33 = .ok (.putfield 20, 3) := by decide +kernel
theorem dX12_init_36 : decode cX12_init 36 = .ok (.aload_n 0, 1) := by decide +kernel
theorem dX12_init_37 : decode cX12_init 37 = .ok (.bipush 72, 2) := by decide +kernel
theorem dX12_init_39 : decode cX12_init 39 = .ok (.newarray .int, 2) := by decide +kernel
theorem dX12_init_41 : decode cX12_init 41 = .ok (.putfield 23, 3) := by decide +kernel
theorem dX12_init_44 : decode cX12_init 44 = .ok (.aload_n 0, 1) := by decide +kernel
theorem dX12_init_45 : decode cX12_init 45 = .ok (.sipush 160, 3) := by decide +kernel
theorem dX12_init_48 : decode cX12_init 48 = .ok (.newarray .long, 2) := by decide +kernel
theorem dX12_init_50 : decode cX12_init 50 = .ok (.putfield 26, 3) := by decide +kernel
theorem dX12_init_53 : decode cX12_init 53 = .ok (.aload_n 0, 1) := by decide +kernel
theorem dX12_init_54 : decode cX12_init 54 = .ok (.sipush 480, 3) := by decide +kernel
theorem dX12_init_57 : decode cX12_init 57 = .ok (.newarray .long, 2) := by decide +kernel
theorem dX12_init_59 : decode cX12_init 59 = .ok (.putfield 30, 3) := by decide +kernel
theorem dX12_init_62 : decode cX12_init 62 = .ok (.aload_n 0, 1) := by decide +kernel
theorem dX12_init_63 : decode cX12_init 63 = .ok (.iconst 4, 1) := by decide +kernel
theorem dX12_init_64 : decode cX12_init 64 = .ok (.newarray .long, 2) := by decide +kernel
theorem dX12_init_66 : decode cX12_init 66 = .ok (.putfield 33, 3) := by decide +kernel
theorem dX12_init_69 : decode cX12_init 69 = .ok (.aload_n 0, 1) := by decide +kernel
theorem dX12_init_70 : decode cX12_init 70 = .ok (.iconst 4, 1) := by decide +kernel
theorem dX12_init_71 : decode cX12_init 71 = .ok (.newarray .long, 2) := by decide +kernel
theorem dX12_init_73 : decode cX12_init 73 = .ok (.putfield 36, 3) := by decide +kernel
theorem dX12_init_76 : decode cX12_init 76 = .ok (.aload_n 0, 1) := by decide +kernel
theorem dX12_init_77 : decode cX12_init 77 = .ok (.iconst 4, 1) := by decide +kernel
theorem dX12_init_78 : decode cX12_init 78 = .ok (.newarray .long, 2) := by decide +kernel
theorem dX12_init_80 : decode cX12_init 80 = .ok (.putfield 39, 3) := by decide +kernel
theorem dX12_init_83 : decode cX12_init 83 = .ok (.aload_n 0, 1) := by decide +kernel
theorem dX12_init_84 : decode cX12_init 84 = .ok (.iconst 4, 1) := by decide +kernel
theorem dX12_init_85 : decode cX12_init 85 = .ok (.newarray .long, 2) := by decide +kernel
theorem dX12_init_87 : decode cX12_init 87 = .ok (.putfield 42, 3) := by decide +kernel
theorem dX12_init_90 : decode cX12_init 90 = .ok (.aload_n 0, 1) := by decide +kernel
theorem dX12_init_91 : decode cX12_init 91 = .ok (.iconst 4, 1) := by decide +kernel
theorem dX12_init_92 : decode cX12_init 92 = .ok (.newarray .long, 2) := by decide +kernel
theorem dX12_init_94 : decode cX12_init 94 = .ok (.putfield 45, 3) := by decide +kernel
theorem dX12_init_97 : decode cX12_init 97 = .ok (.aload_n 0, 1) := by decide +kernel
theorem dX12_init_98 : decode cX12_init 98 = .ok (.iconst 4, 1) := by decide +kernel
theorem dX12_init_99 : decode cX12_init 99 = .ok (.newarray .long, 2) := by decide +kernel
theorem dX12_init_101 : decode cX12_init 101 = .ok (.putfield 48, 3) := by decide +kernel
theorem dX12_init_104 : decode cX12_init 104 = .ok (.aload_n 0, 1) := by decide +kernel
theorem dX12_init_105 : decode cX12_init 105 = .ok (.iconst 4, 1) := by decide +kernel
theorem dX12_init_106 : decode cX12_init 106 = .ok (.newarray .long, 2) := by decide +kernel
theorem dX12_init_108 : decode cX12_init 108 = .ok (.putfield 51, 3) := by decide +kernel
theorem dX12_init_111 : decode cX12_init 111 = .ok (.aload_n 0, 1) := by decide +kernel
theorem dX12_init_112 : decode cX12_init 112 = .ok (.invokevirtual 54, 3) := by decide +kernel
theorem dX12_init_115 : decode cX12_init 115 = .ok (.return_, 1) := by decide +kernel
theorem ss_11 {a0 a1 a2 a3 a4 a5 a6 a7 a8 a9 a10 : Nat} {x11 y11 x12 y12 x13 y13 x14 y14 x15 y15 : Value} : sse (.inr (11, [.ref a0, .ref a1, .ref a2, .ref a3, .ref a4, .ref a5, .ref a6, .ref a7, .ref a8, .ref a9, .ref a10, x11, x12, x13, x14, x15])) (.inr (11, [.ref a0, .ref a1, .ref a2, .ref a3, .ref a4, .ref a5, .ref a6, .ref a7, .ref a8, .ref a9, .ref a10, y11, y12, y13, y14, y15])) := ⟨_, rfl, fun q hq k hk => by
  obtain rfl : q = (RX11, TX11, 16) := Option.some.inj (hq.symm.trans rfl)
  match k, hk with
  | 0, _ => rfl
  | 1, _ => rfl
  | 2, _ => rfl
  | 3, _ => rfl
  | 4, _ => rfl
  | 5, _ => rfl
  | 6, _ => rfl
  | 7, _ => rfl
  | 8, _ => rfl
  | 9, _ => rfl
  | 10, _ => rfl
  | 11, hk => cases hk
  | 12, hk => cases hk
  | 13, hk => cases hk
  | 14, hk => cases hk
  | 15, hk => cases hk
  | k + 16, _ => rfl⟩
theorem ss_12 {a2 a13 a14 a15 a16 a17 a18 a19 a20 a21 a22 a23 a24 : Nat} {x0 y0 x1 y1 x3 y3 x4 y4 x5 y5 x6 y6 x7 y7 x8 y8 x9 y9 x10 y10 x11 y11 x12 y12 : Value} : sse (.inr (12, [x0, x1, .ref a2, x3, x4, x5, x6, x7, x8, x9, x10, x11, x12, .ref a13, .ref a14, .ref a15, .ref a16, .ref a17, .ref a18, .ref a19, .ref a20, .ref a21, .ref a22, .ref a23, .ref a24])) (.inr (12, [y0, y1, .ref a2, y3, y4, y5, y6, y7, y8, y9, y10, y11, y12, .ref a13, .ref a14, .ref a15, .ref a16, .ref a17, .ref a18, .ref a19, .ref a20, .ref a21, .ref a22, .ref a23, .ref a24])) := ⟨_, rfl, fun q hq k hk => by
  obtain rfl : q = (RX12, TX12, 25) := Option.some.inj (hq.symm.trans rfl)
  match k, hk with
  | 0, hk => cases hk
  | 1, hk => cases hk
  | 2, _ => rfl
  | 3, hk => cases hk
  | 4, hk => cases hk
  | 5, hk => cases hk
  | 6, hk => cases hk
  | 7, hk => cases hk
  | 8, hk => cases hk
  | 9, hk => cases hk
  | 10, hk => cases hk
  | 11, hk => cases hk
  | 12, hk => cases hk
  | 13, _ => rfl
  | 14, _ => rfl
  | 15, _ => rfl
  | 16, _ => rfl
  | 17, _ => rfl
  | 18, _ => rfl
  | 19, _ => rfl
  | 20, _ => rfl
  | 21, _ => rfl
  | 22, _ => rfl
  | 23, _ => rfl
  | 24, _ => rfl
  | k + 25, _ => rfl⟩
set_option maxRecDepth 20000 in
set_option maxHeartbeats 1000000 in
theorem s_X11i_z {xs : Nat → Int32} {L d : Nat} {h : ev_H} {h0 : ev_H} {k : Nat} (hW : WTH h) (hK : KL 2 h0 h) (f2 : h 2 = c2 0 0 0 (-9) (-9)) (f3 : h 3 = c3 0 0 0 0 0) (f4 : h 4 = c4 (fun _ => 0)) (f12 : h 12 = .inl (4, 40, .inr (.inr (.inr (.inr (fun j => if j < k then some (100 + 8 * j) else none)))))) (f24 : h 24 = c24 0 0 0 0) (f95 : h 95 = .inr (9, [.long 0])) (hB1 : BT 5 12 h) (hB2 : BT 13 (100 + 8 * k) h) (hk : k = 40) : EV xs L (d + 4) (0) (1) M_X11_init (100 + 8 * k) h 137 [some (.ref 2), some (.int (nI k))] [] (fun sz' h' r => sz' = 420 ∧ WTH h' ∧ KL 2 h0 h' ∧ BT 2 420 h' ∧ h' 2 = c2 0 0 0 (-9) (-9) ∧ h' 3 = c3 0 0 0 0 0 ∧ h' 4 = c4 (fun _ => 0) ∧ h' 24 = c24 0 0 0 0 ∧ h' 95 = .inr (9, [.long 0]) ∧ r = []) := by
  refine r_iload_n rfl dX11_init_137 rfl ?_
  refine r_aload_n rfl dX11_init_138 rfl ?_
  refine r_getv 2 rfl dX11_init_139 (by omega) f2 fl_X11_25 rfl ?_
  refine r_alen (v := 40) rfl dX11_init_142 (by omega) (by omega) f12 (by decide) rfl ?_
  refine r_icmp_ge (tgt := 165) rfl rfl dX11_init_143 (fun _ => ?_) (fun zc => absurd (show (40 : Int32) ≤ nI k from nI_le (a := 40) (b := k) (by omega) (by omega)) zc)
  obtain rfl : k = 40 := hk
  exact r_ret dX11_init_165 (rt_v rfl) ⟨rfl, hW, hK, (BT_jn (BT_jn (BT_jn (BT_jn (BT_jn (BT_1 f2 ss_11) (BT_1 f3 (sse_rf _))) (BT_1 f4 (sse_rf _))) hB1) (BT_1 f12 (sse_rf _))) hB2), f2, f3, f4, f24, f95, rfl⟩
set_option maxRecDepth 20000 in
set_option maxHeartbeats 1000000 in
theorem s_X11i_s {xs : Nat → Int32} {L d : Nat} {h : ev_H} {h0 : ev_H} {k n : Nat} (hW : WTH h) (hK : KL 2 h0 h) (f2 : h 2 = c2 0 0 0 (-9) (-9)) (f3 : h 3 = c3 0 0 0 0 0) (f4 : h 4 = c4 (fun _ => 0)) (f12 : h 12 = .inl (4, 40, .inr (.inr (.inr (.inr (fun j => if j < k then some (100 + 8 * j) else none)))))) (f24 : h 24 = c24 0 0 0 0) (f95 : h 95 = .inr (9, [.long 0])) (hB1 : BT 5 12 h) (hB2 : BT 13 (100 + 8 * k) h) (hk : k < 40) (ih : ∀ h' : ev_H, WTH h' → KL 2 h0 h' → h' 2 = c2 0 0 0 (-9) (-9) → h' 3 = c3 0 0 0 0 0 → h' 4 = c4 (fun _ => 0) → h' 12 = .inl (4, 40, .inr (.inr (.inr (.inr (fun j => if j < k + 1 then some (100 + 8 * j) else none))))) → h' 24 = c24 0 0 0 0 → h' 95 = .inr (9, [.long 0]) → BT 5 12 h' → BT 13 (100 + 8 * (k + 1)) h' → EV xs L (d + 4) (8 * n) (29 * n + 1) M_X11_init (100 + 8 * (k + 1)) h' 137 [some (.ref 2), some (.int (nI (k + 1)))] [] (fun sz' h' r => sz' = 420 ∧ WTH h' ∧ KL 2 h0 h' ∧ BT 2 420 h' ∧ h' 2 = c2 0 0 0 (-9) (-9) ∧ h' 3 = c3 0 0 0 0 0 ∧ h' 4 = c4 (fun _ => 0) ∧ h' 24 = c24 0 0 0 0 ∧ h' 95 = .inr (9, [.long 0]) ∧ r = [])) : EV xs L (d + 4) (8 * n + 8) ((29 * n + 1) + 29) M_X11_init (100 + 8 * k) h 137 [some (.ref 2), some (.int (nI k))] [] (fun sz' h' r => sz' = 420 ∧ WTH h' ∧ KL 2 h0 h' ∧ BT 2 420 h' ∧ h' 2 = c2 0 0 0 (-9) (-9) ∧ h' 3 = c3 0 0 0 0 0 ∧ h' 4 = c4 (fun _ => 0) ∧ h' 24 = c24 0 0 0 0 ∧ h' 95 = .inr (9, [.long 0]) ∧ r = []) := by
  refine r_iload_n rfl dX11_init_137 rfl ?_
  refine r_aload_n rfl dX11_init_138 rfl ?_
  refine r_getv 2 rfl dX11_init_139 (by omega) f2 fl_X11_25 rfl ?_
  refine r_alen (v := 40) rfl dX11_init_142 (by omega) (by omega) f12 (by decide) rfl ?_
  refine r_icmp_ge (tgt := 165) rfl rfl dX11_init_143 (fun zc => absurd zc (show ¬ (40 : Int32) ≤ nI k from nI_ge (a := k) (b := 40) (by omega) (by decide))) (fun _ => ?_)
  refine r_aload_n rfl dX11_init_146 rfl ?_
  refine r_getv 2 rfl dX11_init_147 (by omega) f2 fl_X11_25 rfl ?_
  refine r_iload_n rfl dX11_init_150 rfl ?_
  refine r_bud (kc' := 8 * n + 7 + 1) (ks' := (29 * n + 1) + 22 + 7) (by omega) (by omega) ?_
  refine k_new 3 (fs := [.null, .int 0, .int 0, .int 0, .int 0, .int 0, .int 0]) rfl dX11_init_151 hW rfl rfl lk_X11_23 lt_X3 lz_X3 rfl (fun h51 hW52 hk53 f54 => ?_)
  have f55 : h51 (2) = .inr (11, [.ref 3, .ref 5, .ref 12, .ref 13, .ref 24, .ref 93, .ref 95, .ref 96, .ref 97, .ref 98, .ref 99, .int 0, .int 0, .int 0, .int (-9), .int (-9)]) := (hk53 (2) (by omega)).trans f2
  have f56 : h51 (3) = c3 0 0 0 0 0 := (hk53 (3) (by omega)).trans f3
  have f57 : h51 (4) = c4 (fun _ => 0) := (hk53 (4) (by omega)).trans f4
  have f58 : h51 (12) = .inl (4, 40, .inr (.inr (.inr (.inr (fun j => if j < k then some (100 + 8 * j) else none))))) := (hk53 (12) (by omega)).trans f12
  have f59 : h51 (24) = c24 0 0 0 0 := (hk53 (24) (by omega)).trans f24
  have f60 : h51 (95) = .inr (9, [.long 0]) := (hk53 (95) (by omega)).trans f95
  have B61 : BT (5) (12) h51 := BT_kl hB1 hk53 (by omega)
  have B62 : BT (13) (100 + 8 * k) h51 := BT_kl hB2 hk53 (by omega)
  have K63 : KL (2) h0 h51 := KL_tr (by omega) hK hk53
  refine r_dup rfl dX11_init_154 rfl ?_
  refine r_bud (kc' := 7 + (8 * n + 0)) (ks' := 22 + ((29 * n + 1) + 0)) (by omega) (by omega) ?_
  refine cl_X11_89 rfl rfl dX11_init_155 (Nat.le_of_ble_eq_true rfl) (s_X3_init (i := k) hW52 f54 (by omega) rfl) ?_
  rintro _ h64 _ ⟨rfl, hW65, hk66, ⟨fs67, f68⟩, B69, rfl⟩
  have f70 : h64 (2) = .inr (11, [.ref 3, .ref 5, .ref 12, .ref 13, .ref 24, .ref 93, .ref 95, .ref 96, .ref 97, .ref 98, .ref 99, .int 0, .int 0, .int 0, .int (-9), .int (-9)]) := (hk66 (2) (by omega)).trans f55
  have f71 : h64 (3) = c3 0 0 0 0 0 := (hk66 (3) (by omega)).trans f56
  have f72 : h64 (4) = c4 (fun _ => 0) := (hk66 (4) (by omega)).trans f57
  have f73 : h64 (12) = .inl (4, 40, .inr (.inr (.inr (.inr (fun j => if j < k then some (100 + 8 * j) else none))))) := (hk66 (12) (by omega)).trans f58
  have f74 : h64 (24) = c24 0 0 0 0 := (hk66 (24) (by omega)).trans f59
  have f75 : h64 (95) = .inr (9, [.long 0]) := (hk66 (95) (by omega)).trans f60
  have B76 : BT (5) (12) h64 := BT_kl B61 hk66 (by omega)
  have B77 : BT (13) (100 + 8 * k) h64 := BT_kl B62 hk66 (by omega)
  have K78 : KL (2) h0 h64 := KL_tr (by omega) K63 hk66
  refine k_aast (jn := k) rfl dX11_init_158 (by omega) (by omega) hW65 f73 f68 rfl (Or.inr ⟨rfl, rfl⟩) (by omega) (vp_in_nI (n := k) (by omega) (by decide)) (nI_clamp (n := k) (by omega)) (fun h79 hW80 hk81 f82 => ?_)
  have f83 : h79 (12) = .inl (4, 40, .inr (.inr (.inr (.inr (fun j => if j < k + 1 then some (100 + 8 * j) else none))))) := by rw [f82, fl_up 100 8 k 40 (by omega)]
  have f84 : h79 (2) = .inr (11, [.ref 3, .ref 5, .ref 12, .ref 13, .ref 24, .ref 93, .ref 95, .ref 96, .ref 97, .ref 98, .ref 99, .int 0, .int 0, .int 0, .int (-9), .int (-9)]) := (hk81 (2) (by omega)).trans f70
  have f85 : h79 (3) = c3 0 0 0 0 0 := (hk81 (3) (by omega)).trans f71
  have f86 : h79 (4) = c4 (fun _ => 0) := (hk81 (4) (by omega)).trans f72
  have f87 : h79 (24) = c24 0 0 0 0 := (hk81 (24) (by omega)).trans f74
  have f88 : h79 (95) = .inr (9, [.long 0]) := (hk81 (95) (by omega)).trans f75
  have f89 : h79 (100 + 8 * k) = .inr (3, fs67) := (hk81 (100 + 8 * k) (by omega)).trans f68
  have B90 : BT (5) (12) h79 := BT_kn B76 hk81 (by omega)
  have B91 : BT (13) (100 + 8 * k) h79 := BT_kn B77 hk81 (by omega)
  have B92 : BT (100 + 8 * k) (100 + 8 * k + 8) h79 := BT_kn B69 hk81 (by omega)
  have K93 : KL (2) h0 h79 := KL_kn (by omega) K78 hk81
  refine r_iinc (y := nI (k + 1)) (ls' := [some (.ref 2), some (.int (nI (k + 1)))]) rfl dX11_init_159 rfl (nI_1 k) (Nat.le_of_ble_eq_true rfl) rfl ?_
  refine r_goto (pc' := 137) rfl dX11_init_162 ?_
  refine r_bud (kc' := 8 * n) (ks' := 29 * n + 1) (by omega) (by omega) ?_
  exact ih h79 hW80 K93 f84 f85 f86 f83 f87 f88 B90 (BT_jn B91 B92)
theorem s_X11i {xs : Nat → Int32} {L d : Nat} {h0 : ev_H} : ∀ (n k : Nat) (h : ev_H), k + n = 40 → WTH h → KL 2 h0 h → h 2 = c2 0 0 0 (-9) (-9) → h 3 = c3 0 0 0 0 0 → h 4 = c4 (fun _ => 0) → h 12 = .inl (4, 40, .inr (.inr (.inr (.inr (fun j => if j < k then some (100 + 8 * j) else none))))) → h 24 = c24 0 0 0 0 → h 95 = .inr (9, [.long 0]) → BT 5 12 h → BT 13 (100 + 8 * k) h → EV xs L (d + 4) (8 * n) (29 * n + 1) M_X11_init (100 + 8 * k) h 137 [some (.ref 2), some (.int (nI k))] [] (fun sz' h' r => sz' = 420 ∧ WTH h' ∧ KL 2 h0 h' ∧ BT 2 420 h' ∧ h' 2 = c2 0 0 0 (-9) (-9) ∧ h' 3 = c3 0 0 0 0 0 ∧ h' 4 = c4 (fun _ => 0) ∧ h' 24 = c24 0 0 0 0 ∧ h' 95 = .inr (9, [.long 0]) ∧ r = []) := by
  intro n
  induction n with
  | zero => intro k h hk hW hK f2 f3 f4 f12 f24 f95 hB1 hB2; exact s_X11i_z hW hK f2 f3 f4 f12 f24 f95 hB1 hB2 (by omega)
  | succ n ih => intro k h hk hW hK f2 f3 f4 f12 f24 f95 hB1 hB2; exact r_bud (by omega) (by omega) (s_X11i_s (n := n) hW hK f2 f3 f4 f12 f24 f95 hB1 hB2 (by omega) (fun h' q1 q2 q3 q4 q5 q6 q7 q8 q9 q10 => ih (k + 1) h' (by omega) q1 q2 q3 q4 q5 q6 q7 q8 q9 q10))
set_option maxRecDepth 20000 in
set_option maxHeartbeats 1000000 in
theorem s_X11_init {xs : Nat → Int32} {L d : Nat} {h : ev_H}  (hW : WTH h) (f0 : h 2 = .inr (11, [.null, .null, .null, .null, .null, .null, .null, .null, .null, .null, .null, .int 0, .int 0, .int 0, .int 0, .int 0])) : EV xs L (d + 4) (417) (1924) M_X11_init (3) h 0 [some (.ref 2), none] [] (fun sz' h' r => sz' = 420 ∧ WTH h' ∧ KL 2 h h' ∧ BT 2 420 h' ∧ h' 2 = c2 0 0 0 (-9) (-9) ∧ h' 3 = c3 0 0 0 0 0 ∧ h' 4 = c4 (fun _ => 0) ∧ h' 24 = c24 0 0 0 0 ∧ h' 95 = .inr (9, [.long 0]) ∧ r = []) := by
  refine r_aload_n rfl dX11_init_0 rfl ?_
  refine r_oinit rfl dX11_init_1 (Nat.succ_pos _) (Nat.le_of_ble_eq_true rfl) lo_X11 lk_oi lk_oc ?_
  refine r_aload_n rfl dX11_init_4 rfl ?_
  refine r_bud (kc' := 416 + 1) (ks' := 1918 + 6) (by omega) (by omega) ?_
  refine k_new 8 (fs := [.null, .int 0, .int 0, .int 0, .int 0, .int 0]) rfl dX11_init_5 hW rfl rfl lk_X11_9 lt_X8 lz_X8 rfl (fun h51 hW52 hk53 f54 => ?_)
  have f55 : h51 (2) = .inr (11, [.null, .null, .null, .null, .null, .null, .null, .null, .null, .null, .null, .int 0, .int 0, .int 0, .int 0, .int 0]) := (hk53 (2) (by omega)).trans f0
  have K56 : KL (2) h h51 := KL_tr (by omega) (KL_rf (2) h) hk53
  refine r_dup rfl dX11_init_8 rfl ?_
  refine r_bud (kc' := 1 + (415)) (ks' := 301 + (1617)) (by omega) (by omega) ?_
  refine cl_X11_11 rfl rfl dX11_init_9 (Nat.le_of_ble_eq_true rfl) (s_X8_init hW52 f54) ?_
  rintro _ h57 _ ⟨rfl, hW58, hk59, f61, f62, rfl⟩
  have f63 : h57 (2) = .inr (11, [.null, .null, .null, .null, .null, .null, .null, .null, .null, .null, .null, .int 0, .int 0, .int 0, .int 0, .int 0]) := (hk59 (2) (by omega)).trans f55
  have K64 : KL (2) h h57 := KL_tr (by omega) K56 hk59
  refine k_pc 0 (fs' := [.ref 3, .null, .null, .null, .null, .null, .null, .null, .null, .null, .null, .int 0, .int 0, .int 0, .int 0, .int 0]) rfl dX11_init_12 (by omega) (by omega) hW58 f63 (fp_X11_12 rfl rfl (by omega) _) (Nat.le_of_ble_eq_true rfl) rfl (fun h65 hW66 hk67 f68 => ?_)
  have f69 : h65 (3) = .inr (8, [.ref 4, .int 0, .int 0, .int 0, .int 0, .int 0]) := (hk67 (3) (by omega)).trans f61
  have f70 : h65 (4) = c4 (fun _ => 0) := (hk67 (4) (by omega)).trans f62
  have K71 : KL (2) h h65 := KL_kn (by omega) K64 hk67
  refine r_aload_n rfl dX11_init_15 rfl ?_
  refine r_bud (kc' := 414 + 1) (ks' := 1607 + 10) (by omega) (by omega) ?_
  refine k_new 4 (fs := [.null, .null, .null, .int 0, .int 0, .int 0, .null, .null, .null, .int 0]) rfl dX11_init_16 hW66 rfl rfl lk_X11_16 lt_X4 lz_X4 rfl (fun h72 hW73 hk74 f75 => ?_)
  have f76 : h72 (3) = .inr (8, [.ref 4, .int 0, .int 0, .int 0, .int 0, .int 0]) := (hk74 (3) (by omega)).trans f69
  have f77 : h72 (4) = c4 (fun _ => 0) := (hk74 (4) (by omega)).trans f70
  have f78 : h72 (2) = .inr (11, [.ref 3, .null, .null, .null, .null, .null, .null, .null, .null, .null, .null, .int 0, .int 0, .int 0, .int 0, .int 0]) := (hk74 (2) (by omega)).trans f68
  have K79 : KL (2) h h72 := KL_tr (by omega) K71 hk74
  refine r_dup rfl dX11_init_19 rfl ?_
  refine r_bud (kc' := 6 + (408)) (ks' := 121 + (1486)) (by omega) (by omega) ?_
  refine cl_X11_18 rfl rfl dX11_init_20 (Nat.le_of_ble_eq_true rfl) (s_X4_init hW73 f75) ?_
  rintro _ h80 _ ⟨rfl, hW81, hk82, B83, rfl⟩
  have f84 : h80 (3) = .inr (8, [.ref 4, .int 0, .int 0, .int 0, .int 0, .int 0]) := (hk82 (3) (by omega)).trans f76
  have f85 : h80 (4) = c4 (fun _ => 0) := (hk82 (4) (by omega)).trans f77
  have f86 : h80 (2) = .inr (11, [.ref 3, .null, .null, .null, .null, .null, .null, .null, .null, .null, .null, .int 0, .int 0, .int 0, .int 0, .int 0]) := (hk82 (2) (by omega)).trans f78
  have K87 : KL (2) h h80 := KL_tr (by omega) K79 hk82
  refine k_pc 1 (fs' := [.ref 3, .ref 5, .null, .null, .null, .null, .null, .null, .null, .null, .null, .int 0, .int 0, .int 0, .int 0, .int 0]) rfl dX11_init_23 (by omega) (by omega) hW81 f86 (fp_X11_19 rfl rfl (by omega) _) (Nat.le_of_ble_eq_true rfl) rfl (fun h88 hW89 hk90 f91 => ?_)
  have f92 : h88 (3) = .inr (8, [.ref 4, .int 0, .int 0, .int 0, .int 0, .int 0]) := (hk90 (3) (by omega)).trans f84
  have f93 : h88 (4) = c4 (fun _ => 0) := (hk90 (4) (by omega)).trans f85
  have B94 : BT (5) (12) h88 := BT_kn B83 hk90 (by omega)
  have K95 : KL (2) h h88 := KL_kn (by omega) K87 hk90
  refine r_aload_n rfl dX11_init_26 rfl ?_
  refine r_bipush (v := 40) rfl dX11_init_27 (by decide) ?_
  refine r_bud (kc' := 407 + 1) (ks' := 1446 + 40) (by omega) (by omega) ?_
  refine k_anew (t := 4) rfl dX11_init_29 hW89 (by decide) (by decide) (by decide) (Or.inr ⟨rfl, rfl⟩) lk_X11_23 lao_X3 (fun h96 hW97 hk98 f99 => ?_)
  have f100 : h96 (3) = .inr (8, [.ref 4, .int 0, .int 0, .int 0, .int 0, .int 0]) := (hk98 (3) (by omega)).trans f92
  have f101 : h96 (4) = c4 (fun _ => 0) := (hk98 (4) (by omega)).trans f93
  have f102 : h96 (2) = .inr (11, [.ref 3, .ref 5, .null, .null, .null, .null, .null, .null, .null, .null, .null, .int 0, .int 0, .int 0, .int 0, .int 0]) := (hk98 (2) (by omega)).trans f91
  have B103 : BT (5) (12) h96 := BT_kl B94 hk98 (by omega)
  have K104 : KL (2) h h96 := KL_tr (by omega) K95 hk98
  refine k_pc 2 (fs' := [.ref 3, .ref 5, .ref 12, .null, .null, .null, .null, .null, .null, .null, .null, .int 0, .int 0, .int 0, .int 0, .int 0]) rfl dX11_init_32 (by omega) (by omega) hW97 f102 (fp_X11_25 rfl rfl (by omega) _) (Nat.le_of_ble_eq_true rfl) rfl (fun h105 hW106 hk107 f108 => ?_)
  have f109 : h105 (3) = .inr (8, [.ref 4, .int 0, .int 0, .int 0, .int 0, .int 0]) := (hk107 (3) (by omega)).trans f100
  have f110 : h105 (4) = c4 (fun _ => 0) := (hk107 (4) (by omega)).trans f101
  have f111 : h105 (12) = .inl (4, 40, .inr (.inr (.inr (.inr (fun _ => none))))) := (hk107 (12) (by omega)).trans f99
  have B112 : BT (5) (12) h105 := BT_kn B103 hk107 (by omega)
  have K113 : KL (2) h h105 := KL_kn (by omega) K104 hk107
  refine r_aload_n rfl dX11_init_35 rfl ?_
  refine r_bud (kc' := 406 + 1) (ks' := 1437 + 9) (by omega) (by omega) ?_
  refine k_new 7 (fs := [.null, .null, .null, .null, .null, .int 0, .int 0, .int 0, .int 0]) rfl dX11_init_36 hW106 rfl rfl lk_X11_29 lt_X7 lz_X7 rfl (fun h114 hW115 hk116 f117 => ?_)
  have f118 : h114 (3) = .inr (8, [.ref 4, .int 0, .int 0, .int 0, .int 0, .int 0]) := (hk116 (3) (by omega)).trans f109
  have f119 : h114 (4) = c4 (fun _ => 0) := (hk116 (4) (by omega)).trans f110
  have f120 : h114 (12) = .inl (4, 40, .inr (.inr (.inr (.inr (fun _ => none))))) := (hk116 (12) (by omega)).trans f111
  have f121 : h114 (2) = .inr (11, [.ref 3, .ref 5, .ref 12, .null, .null, .null, .null, .null, .null, .null, .null, .int 0, .int 0, .int 0, .int 0, .int 0]) := (hk116 (2) (by omega)).trans f108
  have B122 : BT (5) (12) h114 := BT_kl B112 hk116 (by omega)
  have K123 : KL (2) h h114 := KL_tr (by omega) K113 hk116
  refine r_dup rfl dX11_init_39 rfl ?_
  refine r_bud (kc' := 10 + (396)) (ks' := 31 + (1406)) (by omega) (by omega) ?_
  refine cl_X11_31 rfl rfl dX11_init_40 (Nat.le_of_ble_eq_true rfl) (s_X7_init hW115 f117) ?_
  rintro _ h124 _ ⟨rfl, hW125, hk126, B127, rfl⟩
  have f128 : h124 (3) = .inr (8, [.ref 4, .int 0, .int 0, .int 0, .int 0, .int 0]) := (hk126 (3) (by omega)).trans f118
  have f129 : h124 (4) = c4 (fun _ => 0) := (hk126 (4) (by omega)).trans f119
  have f130 : h124 (12) = .inl (4, 40, .inr (.inr (.inr (.inr (fun _ => none))))) := (hk126 (12) (by omega)).trans f120
  have f131 : h124 (2) = .inr (11, [.ref 3, .ref 5, .ref 12, .null, .null, .null, .null, .null, .null, .null, .null, .int 0, .int 0, .int 0, .int 0, .int 0]) := (hk126 (2) (by omega)).trans f121
  have B132 : BT (5) (12) h124 := BT_kl B122 hk126 (by omega)
  have K133 : KL (2) h h124 := KL_tr (by omega) K123 hk126
  refine k_pc 3 (fs' := [.ref 3, .ref 5, .ref 12, .ref 13, .null, .null, .null, .null, .null, .null, .null, .int 0, .int 0, .int 0, .int 0, .int 0]) rfl dX11_init_43 (by omega) (by omega) hW125 f131 (fp_X11_32 rfl rfl (by omega) _) (Nat.le_of_ble_eq_true rfl) rfl (fun h134 hW135 hk136 f137 => ?_)
  have f138 : h134 (3) = .inr (8, [.ref 4, .int 0, .int 0, .int 0, .int 0, .int 0]) := (hk136 (3) (by omega)).trans f128
  have f139 : h134 (4) = c4 (fun _ => 0) := (hk136 (4) (by omega)).trans f129
  have f140 : h134 (12) = .inl (4, 40, .inr (.inr (.inr (.inr (fun _ => none))))) := (hk136 (12) (by omega)).trans f130
  have B141 : BT (5) (12) h134 := BT_kn B132 hk136 (by omega)
  have B142 : BT (13) (24) h134 := BT_kn B127 hk136 (by omega)
  have K143 : KL (2) h h134 := KL_kn (by omega) K133 hk136
  refine r_aload_n rfl dX11_init_46 rfl ?_
  refine r_bud (kc' := 395 + 1) (ks' := 1400 + 6) (by omega) (by omega) ?_
  refine k_new 0 (fs := [.null, .null, .int 0, .int 0, .int 0, .int 0]) rfl dX11_init_47 hW135 rfl rfl lk_X11_36 lt_X0 lz_X0 rfl (fun h144 hW145 hk146 f147 => ?_)
  have f148 : h144 (3) = .inr (8, [.ref 4, .int 0, .int 0, .int 0, .int 0, .int 0]) := (hk146 (3) (by omega)).trans f138
  have f149 : h144 (4) = c4 (fun _ => 0) := (hk146 (4) (by omega)).trans f139
  have f150 : h144 (12) = .inl (4, 40, .inr (.inr (.inr (.inr (fun _ => none))))) := (hk146 (12) (by omega)).trans f140
  have f151 : h144 (2) = .inr (11, [.ref 3, .ref 5, .ref 12, .ref 13, .null, .null, .null, .null, .null, .null, .null, .int 0, .int 0, .int 0, .int 0, .int 0]) := (hk146 (2) (by omega)).trans f137
  have B152 : BT (5) (12) h144 := BT_kl B141 hk146 (by omega)
  have B153 : BT (13) (24) h144 := BT_kl B142 hk146 (by omega)
  have K154 : KL (2) h h144 := KL_tr (by omega) K143 hk146
  refine r_dup rfl dX11_init_50 rfl ?_
  refine r_bud (kc' := 68 + (327)) (ks' := 232 + (1168)) (by omega) (by omega) ?_
  refine cl_X11_38 rfl rfl dX11_init_51 (Nat.le_of_ble_eq_true rfl) (s_X0_init hW145 f147) ?_
  rintro _ h155 _ ⟨rfl, hW156, hk157, f159, B158, rfl⟩
  have f160 : h155 (3) = .inr (8, [.ref 4, .int 0, .int 0, .int 0, .int 0, .int 0]) := (hk157 (3) (by omega)).trans f148
  have f161 : h155 (4) = c4 (fun _ => 0) := (hk157 (4) (by omega)).trans f149
  have f162 : h155 (12) = .inl (4, 40, .inr (.inr (.inr (.inr (fun _ => none))))) := (hk157 (12) (by omega)).trans f150
  have f163 : h155 (2) = .inr (11, [.ref 3, .ref 5, .ref 12, .ref 13, .null, .null, .null, .null, .null, .null, .null, .int 0, .int 0, .int 0, .int 0, .int 0]) := (hk157 (2) (by omega)).trans f151
  have B164 : BT (5) (12) h155 := BT_kl B152 hk157 (by omega)
  have B165 : BT (13) (24) h155 := BT_kl B153 hk157 (by omega)
  have K166 : KL (2) h h155 := KL_tr (by omega) K154 hk157
  refine k_pc 4 (fs' := [.ref 3, .ref 5, .ref 12, .ref 13, .ref 24, .null, .null, .null, .null, .null, .null, .int 0, .int 0, .int 0, .int 0, .int 0]) rfl dX11_init_54 (by omega) (by omega) hW156 f163 (fp_X11_39 rfl rfl (by omega) _) (Nat.le_of_ble_eq_true rfl) rfl (fun h167 hW168 hk169 f170 => ?_)
  have f171 : h167 (3) = .inr (8, [.ref 4, .int 0, .int 0, .int 0, .int 0, .int 0]) := (hk169 (3) (by omega)).trans f160
  have f172 : h167 (4) = c4 (fun _ => 0) := (hk169 (4) (by omega)).trans f161
  have f173 : h167 (12) = .inl (4, 40, .inr (.inr (.inr (.inr (fun _ => none))))) := (hk169 (12) (by omega)).trans f162
  have f174 : h167 (24) = c24 0 0 0 0 := (hk169 (24) (by omega)).trans f159
  have B175 : BT (5) (12) h167 := BT_kn B164 hk169 (by omega)
  have B176 : BT (13) (24) h167 := BT_kn B165 hk169 (by omega)
  have B177 : BT (24) (93) h167 := BT_kn B158 hk169 (by omega)
  have K178 : KL (2) h h167 := KL_kn (by omega) K166 hk169
  refine r_aload_n rfl dX11_init_57 rfl ?_
  refine r_bud (kc' := 326 + 1) (ks' := 1167 + 1) (by omega) (by omega) ?_
  refine k_new 10 (fs := [.null]) rfl dX11_init_58 hW168 rfl rfl lk_X11_43 lt_X10 lz_X10 rfl (fun h179 hW180 hk181 f182 => ?_)
  have f183 : h179 (3) = .inr (8, [.ref 4, .int 0, .int 0, .int 0, .int 0, .int 0]) := (hk181 (3) (by omega)).trans f171
  have f184 : h179 (4) = c4 (fun _ => 0) := (hk181 (4) (by omega)).trans f172
  have f185 : h179 (12) = .inl (4, 40, .inr (.inr (.inr (.inr (fun _ => none))))) := (hk181 (12) (by omega)).trans f173
  have f186 : h179 (24) = c24 0 0 0 0 := (hk181 (24) (by omega)).trans f174
  have f187 : h179 (2) = .inr (11, [.ref 3, .ref 5, .ref 12, .ref 13, .ref 24, .null, .null, .null, .null, .null, .null, .int 0, .int 0, .int 0, .int 0, .int 0]) := (hk181 (2) (by omega)).trans f170
  have B188 : BT (5) (12) h179 := BT_kl B175 hk181 (by omega)
  have B189 : BT (13) (24) h179 := BT_kl B176 hk181 (by omega)
  have B190 : BT (24) (93) h179 := BT_kl B177 hk181 (by omega)
  have K191 : KL (2) h h179 := KL_tr (by omega) K178 hk181
  refine r_dup rfl dX11_init_61 rfl ?_
  refine r_bud (kc' := 1 + (325)) (ks' := 5 + (1162)) (by omega) (by omega) ?_
  refine cl_X11_45 rfl rfl dX11_init_62 (Nat.le_of_ble_eq_true rfl) (s_X10_init hW180 (by omega) f182) ?_
  rintro _ h192 _ ⟨rfl, hW193, hk194, f195, f196, rfl⟩
  have f197 : h192 (3) = .inr (8, [.ref 4, .int 0, .int 0, .int 0, .int 0, .int 0]) := (hk194 (3) (by omega)).trans f183
  have f198 : h192 (4) = c4 (fun _ => 0) := (hk194 (4) (by omega)).trans f184
  have f199 : h192 (12) = .inl (4, 40, .inr (.inr (.inr (.inr (fun _ => none))))) := (hk194 (12) (by omega)).trans f185
  have f200 : h192 (24) = c24 0 0 0 0 := (hk194 (24) (by omega)).trans f186
  have f201 : h192 (2) = .inr (11, [.ref 3, .ref 5, .ref 12, .ref 13, .ref 24, .null, .null, .null, .null, .null, .null, .int 0, .int 0, .int 0, .int 0, .int 0]) := (hk194 (2) (by omega)).trans f187
  have B202 : BT (5) (12) h192 := BT_kl B188 hk194 (by omega)
  have B203 : BT (13) (24) h192 := BT_kl B189 hk194 (by omega)
  have B204 : BT (24) (93) h192 := BT_kl B190 hk194 (by omega)
  have K205 : KL (2) h h192 := KL_tr (by omega) K191 hk194
  refine k_pc 5 (fs' := [.ref 3, .ref 5, .ref 12, .ref 13, .ref 24, .ref 93, .null, .null, .null, .null, .null, .int 0, .int 0, .int 0, .int 0, .int 0]) rfl dX11_init_65 (by omega) (by omega) hW193 f201 (fp_X11_46 rfl rfl (by omega) _) (Nat.le_of_ble_eq_true rfl) rfl (fun h206 hW207 hk208 f209 => ?_)
  have f210 : h206 (3) = .inr (8, [.ref 4, .int 0, .int 0, .int 0, .int 0, .int 0]) := (hk208 (3) (by omega)).trans f197
  have f211 : h206 (4) = c4 (fun _ => 0) := (hk208 (4) (by omega)).trans f198
  have f212 : h206 (12) = .inl (4, 40, .inr (.inr (.inr (.inr (fun _ => none))))) := (hk208 (12) (by omega)).trans f199
  have f213 : h206 (24) = c24 0 0 0 0 := (hk208 (24) (by omega)).trans f200
  have f214 : h206 (93) = .inr (10, [.ref 94]) := (hk208 (93) (by omega)).trans f195
  have f215 : h206 (94) = .inl (1, 4, .inr (.inl (fun _ => 0))) := (hk208 (94) (by omega)).trans f196
  have B216 : BT (5) (12) h206 := BT_kn B202 hk208 (by omega)
  have B217 : BT (13) (24) h206 := BT_kn B203 hk208 (by omega)
  have B218 : BT (24) (93) h206 := BT_kn B204 hk208 (by omega)
  have K219 : KL (2) h h206 := KL_kn (by omega) K205 hk208
  refine r_aload_n rfl dX11_init_68 rfl ?_
  refine r_bud (kc' := 324 + 1) (ks' := 1161 + 1) (by omega) (by omega) ?_
  refine k_new 9 (fs := [.long 0]) rfl dX11_init_69 hW207 rfl rfl lk_X11_50 lt_X9 lz_X9 rfl (fun h220 hW221 hk222 f223 => ?_)
  have f224 : h220 (3) = .inr (8, [.ref 4, .int 0, .int 0, .int 0, .int 0, .int 0]) := (hk222 (3) (by omega)).trans f210
  have f225 : h220 (4) = c4 (fun _ => 0) := (hk222 (4) (by omega)).trans f211
  have f226 : h220 (12) = .inl (4, 40, .inr (.inr (.inr (.inr (fun _ => none))))) := (hk222 (12) (by omega)).trans f212
  have f227 : h220 (24) = c24 0 0 0 0 := (hk222 (24) (by omega)).trans f213
  have f228 : h220 (93) = .inr (10, [.ref 94]) := (hk222 (93) (by omega)).trans f214
  have f229 : h220 (94) = .inl (1, 4, .inr (.inl (fun _ => 0))) := (hk222 (94) (by omega)).trans f215
  have f230 : h220 (2) = .inr (11, [.ref 3, .ref 5, .ref 12, .ref 13, .ref 24, .ref 93, .null, .null, .null, .null, .null, .int 0, .int 0, .int 0, .int 0, .int 0]) := (hk222 (2) (by omega)).trans f209
  have B231 : BT (5) (12) h220 := BT_kl B216 hk222 (by omega)
  have B232 : BT (13) (24) h220 := BT_kl B217 hk222 (by omega)
  have B233 : BT (24) (93) h220 := BT_kl B218 hk222 (by omega)
  have K234 : KL (2) h h220 := KL_tr (by omega) K219 hk222
  refine r_dup rfl dX11_init_72 rfl ?_
  refine r_bud (kc' := 0 + (324)) (ks' := 0 + (1161)) (by omega) (by omega) ?_
  refine cl_X11_52 rfl rfl dX11_init_73 (Nat.le_of_ble_eq_true rfl) (s_X9_init hW221) ?_
  rintro _ h235 _ ⟨rfl, e236, rfl⟩
  replace e236 := e236.symm
  subst e236
  refine k_pc 6 (fs' := [.ref 3, .ref 5, .ref 12, .ref 13, .ref 24, .ref 93, .ref 95, .null, .null, .null, .null, .int 0, .int 0, .int 0, .int 0, .int 0]) rfl dX11_init_76 (by omega) (by omega) hW221 f230 (fp_X11_53 rfl rfl (by omega) _) (Nat.le_of_ble_eq_true rfl) rfl (fun h237 hW238 hk239 f240 => ?_)
  have f241 : h237 (3) = .inr (8, [.ref 4, .int 0, .int 0, .int 0, .int 0, .int 0]) := (hk239 (3) (by omega)).trans f224
  have f242 : h237 (4) = c4 (fun _ => 0) := (hk239 (4) (by omega)).trans f225
  have f243 : h237 (12) = .inl (4, 40, .inr (.inr (.inr (.inr (fun _ => none))))) := (hk239 (12) (by omega)).trans f226
  have f244 : h237 (24) = c24 0 0 0 0 := (hk239 (24) (by omega)).trans f227
  have f245 : h237 (93) = .inr (10, [.ref 94]) := (hk239 (93) (by omega)).trans f228
  have f246 : h237 (94) = .inl (1, 4, .inr (.inl (fun _ => 0))) := (hk239 (94) (by omega)).trans f229
  have f247 : h237 (95) = .inr (9, [.long 0]) := (hk239 (95) (by omega)).trans f223
  have B248 : BT (5) (12) h237 := BT_kn B231 hk239 (by omega)
  have B249 : BT (13) (24) h237 := BT_kn B232 hk239 (by omega)
  have B250 : BT (24) (93) h237 := BT_kn B233 hk239 (by omega)
  have K251 : KL (2) h h237 := KL_kn (by omega) K234 hk239
  refine r_aload_n rfl dX11_init_79 rfl ?_
  refine r_bud (kc' := 323 + 1) (ks' := 1161 + 0) (by omega) (by omega) ?_
  refine k_new 6 (fs := []) rfl dX11_init_80 hW238 rfl rfl lk_X11_57 lt_X6 lz_X6 rfl (fun h252 hW253 hk254 f255 => ?_)
  have f256 : h252 (3) = .inr (8, [.ref 4, .int 0, .int 0, .int 0, .int 0, .int 0]) := (hk254 (3) (by omega)).trans f241
  have f257 : h252 (4) = c4 (fun _ => 0) := (hk254 (4) (by omega)).trans f242
  have f258 : h252 (12) = .inl (4, 40, .inr (.inr (.inr (.inr (fun _ => none))))) := (hk254 (12) (by omega)).trans f243
  have f259 : h252 (24) = c24 0 0 0 0 := (hk254 (24) (by omega)).trans f244
  have f260 : h252 (93) = .inr (10, [.ref 94]) := (hk254 (93) (by omega)).trans f245
  have f261 : h252 (94) = .inl (1, 4, .inr (.inl (fun _ => 0))) := (hk254 (94) (by omega)).trans f246
  have f262 : h252 (95) = .inr (9, [.long 0]) := (hk254 (95) (by omega)).trans f247
  have f263 : h252 (2) = .inr (11, [.ref 3, .ref 5, .ref 12, .ref 13, .ref 24, .ref 93, .ref 95, .null, .null, .null, .null, .int 0, .int 0, .int 0, .int 0, .int 0]) := (hk254 (2) (by omega)).trans f240
  have B264 : BT (5) (12) h252 := BT_kl B248 hk254 (by omega)
  have B265 : BT (13) (24) h252 := BT_kl B249 hk254 (by omega)
  have B266 : BT (24) (93) h252 := BT_kl B250 hk254 (by omega)
  have K267 : KL (2) h h252 := KL_tr (by omega) K251 hk254
  refine r_dup rfl dX11_init_83 rfl ?_
  refine r_bud (kc' := 0 + (323)) (ks' := 0 + (1161)) (by omega) (by omega) ?_
  refine cl_X11_59 rfl rfl dX11_init_84 (Nat.le_of_ble_eq_true rfl) (s_X6_init hW253) ?_
  rintro _ h268 _ ⟨rfl, e269, rfl⟩
  replace e269 := e269.symm
  subst e269
  refine k_pc 7 (fs' := [.ref 3, .ref 5, .ref 12, .ref 13, .ref 24, .ref 93, .ref 95, .ref 96, .null, .null, .null, .int 0, .int 0, .int 0, .int 0, .int 0]) rfl dX11_init_87 (by omega) (by omega) hW253 f263 (fp_X11_60 rfl rfl (by omega) _) (Nat.le_of_ble_eq_true rfl) rfl (fun h270 hW271 hk272 f273 => ?_)
  have f274 : h270 (3) = .inr (8, [.ref 4, .int 0, .int 0, .int 0, .int 0, .int 0]) := (hk272 (3) (by omega)).trans f256
  have f275 : h270 (4) = c4 (fun _ => 0) := (hk272 (4) (by omega)).trans f257
  have f276 : h270 (12) = .inl (4, 40, .inr (.inr (.inr (.inr (fun _ => none))))) := (hk272 (12) (by omega)).trans f258
  have f277 : h270 (24) = c24 0 0 0 0 := (hk272 (24) (by omega)).trans f259
  have f278 : h270 (93) = .inr (10, [.ref 94]) := (hk272 (93) (by omega)).trans f260
  have f279 : h270 (94) = .inl (1, 4, .inr (.inl (fun _ => 0))) := (hk272 (94) (by omega)).trans f261
  have f280 : h270 (95) = .inr (9, [.long 0]) := (hk272 (95) (by omega)).trans f262
  have f281 : h270 (96) = .inr (6, []) := (hk272 (96) (by omega)).trans f255
  have B282 : BT (5) (12) h270 := BT_kn B264 hk272 (by omega)
  have B283 : BT (13) (24) h270 := BT_kn B265 hk272 (by omega)
  have B284 : BT (24) (93) h270 := BT_kn B266 hk272 (by omega)
  have K285 : KL (2) h h270 := KL_kn (by omega) K267 hk272
  refine r_aload_n rfl dX11_init_90 rfl ?_
  refine r_bud (kc' := 322 + 1) (ks' := 1161 + 0) (by omega) (by omega) ?_
  refine k_new 2 (fs := []) rfl dX11_init_91 hW271 rfl rfl lk_X11_64 lt_X2 lz_X2 rfl (fun h286 hW287 hk288 f289 => ?_)
  have f290 : h286 (3) = .inr (8, [.ref 4, .int 0, .int 0, .int 0, .int 0, .int 0]) := (hk288 (3) (by omega)).trans f274
  have f291 : h286 (4) = c4 (fun _ => 0) := (hk288 (4) (by omega)).trans f275
  have f292 : h286 (12) = .inl (4, 40, .inr (.inr (.inr (.inr (fun _ => none))))) := (hk288 (12) (by omega)).trans f276
  have f293 : h286 (24) = c24 0 0 0 0 := (hk288 (24) (by omega)).trans f277
  have f294 : h286 (93) = .inr (10, [.ref 94]) := (hk288 (93) (by omega)).trans f278
  have f295 : h286 (94) = .inl (1, 4, .inr (.inl (fun _ => 0))) := (hk288 (94) (by omega)).trans f279
  have f296 : h286 (95) = .inr (9, [.long 0]) := (hk288 (95) (by omega)).trans f280
  have f297 : h286 (96) = .inr (6, []) := (hk288 (96) (by omega)).trans f281
  have f298 : h286 (2) = .inr (11, [.ref 3, .ref 5, .ref 12, .ref 13, .ref 24, .ref 93, .ref 95, .ref 96, .null, .null, .null, .int 0, .int 0, .int 0, .int 0, .int 0]) := (hk288 (2) (by omega)).trans f273
  have B299 : BT (5) (12) h286 := BT_kl B282 hk288 (by omega)
  have B300 : BT (13) (24) h286 := BT_kl B283 hk288 (by omega)
  have B301 : BT (24) (93) h286 := BT_kl B284 hk288 (by omega)
  have K302 : KL (2) h h286 := KL_tr (by omega) K285 hk288
  refine r_dup rfl dX11_init_94 rfl ?_
  refine r_bud (kc' := 0 + (322)) (ks' := 0 + (1161)) (by omega) (by omega) ?_
  refine cl_X11_66 rfl rfl dX11_init_95 (Nat.le_of_ble_eq_true rfl) (s_X2_init hW287) ?_
  rintro _ h303 _ ⟨rfl, e304, rfl⟩
  replace e304 := e304.symm
  subst e304
  refine k_pc 8 (fs' := [.ref 3, .ref 5, .ref 12, .ref 13, .ref 24, .ref 93, .ref 95, .ref 96, .ref 97, .null, .null, .int 0, .int 0, .int 0, .int 0, .int 0]) rfl dX11_init_98 (by omega) (by omega) hW287 f298 (fp_X11_67 rfl rfl (by omega) _) (Nat.le_of_ble_eq_true rfl) rfl (fun h305 hW306 hk307 f308 => ?_)
  have f309 : h305 (3) = .inr (8, [.ref 4, .int 0, .int 0, .int 0, .int 0, .int 0]) := (hk307 (3) (by omega)).trans f290
  have f310 : h305 (4) = c4 (fun _ => 0) := (hk307 (4) (by omega)).trans f291
  have f311 : h305 (12) = .inl (4, 40, .inr (.inr (.inr (.inr (fun _ => none))))) := (hk307 (12) (by omega)).trans f292
  have f312 : h305 (24) = c24 0 0 0 0 := (hk307 (24) (by omega)).trans f293
  have f313 : h305 (93) = .inr (10, [.ref 94]) := (hk307 (93) (by omega)).trans f294
  have f314 : h305 (94) = .inl (1, 4, .inr (.inl (fun _ => 0))) := (hk307 (94) (by omega)).trans f295
  have f315 : h305 (95) = .inr (9, [.long 0]) := (hk307 (95) (by omega)).trans f296
  have f316 : h305 (96) = .inr (6, []) := (hk307 (96) (by omega)).trans f297
  have f317 : h305 (97) = .inr (2, []) := (hk307 (97) (by omega)).trans f289
  have B318 : BT (5) (12) h305 := BT_kn B299 hk307 (by omega)
  have B319 : BT (13) (24) h305 := BT_kn B300 hk307 (by omega)
  have B320 : BT (24) (93) h305 := BT_kn B301 hk307 (by omega)
  have K321 : KL (2) h h305 := KL_kn (by omega) K302 hk307
  refine r_aload_n rfl dX11_init_101 rfl ?_
  refine r_bud (kc' := 321 + 1) (ks' := 1161 + 0) (by omega) (by omega) ?_
  refine k_new 5 (fs := []) rfl dX11_init_102 hW306 rfl rfl lk_X11_70 lt_X5 lz_X5 rfl (fun h322 hW323 hk324 f325 => ?_)
  have f326 : h322 (3) = .inr (8, [.ref 4, .int 0, .int 0, .int 0, .int 0, .int 0]) := (hk324 (3) (by omega)).trans f309
  have f327 : h322 (4) = c4 (fun _ => 0) := (hk324 (4) (by omega)).trans f310
  have f328 : h322 (12) = .inl (4, 40, .inr (.inr (.inr (.inr (fun _ => none))))) := (hk324 (12) (by omega)).trans f311
  have f329 : h322 (24) = c24 0 0 0 0 := (hk324 (24) (by omega)).trans f312
  have f330 : h322 (93) = .inr (10, [.ref 94]) := (hk324 (93) (by omega)).trans f313
  have f331 : h322 (94) = .inl (1, 4, .inr (.inl (fun _ => 0))) := (hk324 (94) (by omega)).trans f314
  have f332 : h322 (95) = .inr (9, [.long 0]) := (hk324 (95) (by omega)).trans f315
  have f333 : h322 (96) = .inr (6, []) := (hk324 (96) (by omega)).trans f316
  have f334 : h322 (97) = .inr (2, []) := (hk324 (97) (by omega)).trans f317
  have f335 : h322 (2) = .inr (11, [.ref 3, .ref 5, .ref 12, .ref 13, .ref 24, .ref 93, .ref 95, .ref 96, .ref 97, .null, .null, .int 0, .int 0, .int 0, .int 0, .int 0]) := (hk324 (2) (by omega)).trans f308
  have B336 : BT (5) (12) h322 := BT_kl B318 hk324 (by omega)
  have B337 : BT (13) (24) h322 := BT_kl B319 hk324 (by omega)
  have B338 : BT (24) (93) h322 := BT_kl B320 hk324 (by omega)
  have K339 : KL (2) h h322 := KL_tr (by omega) K321 hk324
  refine r_dup rfl dX11_init_105 rfl ?_
  refine r_bud (kc' := 0 + (321)) (ks' := 0 + (1161)) (by omega) (by omega) ?_
  refine cl_X11_72 rfl rfl dX11_init_106 (Nat.le_of_ble_eq_true rfl) (s_X5_init hW323) ?_
  rintro _ h340 _ ⟨rfl, e341, rfl⟩
  replace e341 := e341.symm
  subst e341
  refine k_pc 9 (fs' := [.ref 3, .ref 5, .ref 12, .ref 13, .ref 24, .ref 93, .ref 95, .ref 96, .ref 97, .ref 98, .null, .int 0, .int 0, .int 0, .int 0, .int 0]) rfl dX11_init_109 (by omega) (by omega) hW323 f335 (fp_X11_73 rfl rfl (by omega) _) (Nat.le_of_ble_eq_true rfl) rfl (fun h342 hW343 hk344 f345 => ?_)
  have f346 : h342 (3) = .inr (8, [.ref 4, .int 0, .int 0, .int 0, .int 0, .int 0]) := (hk344 (3) (by omega)).trans f326
  have f347 : h342 (4) = c4 (fun _ => 0) := (hk344 (4) (by omega)).trans f327
  have f348 : h342 (12) = .inl (4, 40, .inr (.inr (.inr (.inr (fun _ => none))))) := (hk344 (12) (by omega)).trans f328
  have f349 : h342 (24) = c24 0 0 0 0 := (hk344 (24) (by omega)).trans f329
  have f350 : h342 (93) = .inr (10, [.ref 94]) := (hk344 (93) (by omega)).trans f330
  have f351 : h342 (94) = .inl (1, 4, .inr (.inl (fun _ => 0))) := (hk344 (94) (by omega)).trans f331
  have f352 : h342 (95) = .inr (9, [.long 0]) := (hk344 (95) (by omega)).trans f332
  have f353 : h342 (96) = .inr (6, []) := (hk344 (96) (by omega)).trans f333
  have f354 : h342 (97) = .inr (2, []) := (hk344 (97) (by omega)).trans f334
  have f355 : h342 (98) = .inr (5, []) := (hk344 (98) (by omega)).trans f325
  have B356 : BT (5) (12) h342 := BT_kn B336 hk344 (by omega)
  have B357 : BT (13) (24) h342 := BT_kn B337 hk344 (by omega)
  have B358 : BT (24) (93) h342 := BT_kn B338 hk344 (by omega)
  have K359 : KL (2) h h342 := KL_kn (by omega) K339 hk344
  refine r_aload_n rfl dX11_init_112 rfl ?_
  refine r_bud (kc' := 320 + 1) (ks' := 1161 + 0) (by omega) (by omega) ?_
  refine k_new 1 (fs := []) rfl dX11_init_113 hW343 rfl rfl lk_X11_76 lt_X1 lz_X1 rfl (fun h360 hW361 hk362 f363 => ?_)
  have f364 : h360 (3) = .inr (8, [.ref 4, .int 0, .int 0, .int 0, .int 0, .int 0]) := (hk362 (3) (by omega)).trans f346
  have f365 : h360 (4) = c4 (fun _ => 0) := (hk362 (4) (by omega)).trans f347
  have f366 : h360 (12) = .inl (4, 40, .inr (.inr (.inr (.inr (fun _ => none))))) := (hk362 (12) (by omega)).trans f348
  have f367 : h360 (24) = c24 0 0 0 0 := (hk362 (24) (by omega)).trans f349
  have f368 : h360 (93) = .inr (10, [.ref 94]) := (hk362 (93) (by omega)).trans f350
  have f369 : h360 (94) = .inl (1, 4, .inr (.inl (fun _ => 0))) := (hk362 (94) (by omega)).trans f351
  have f370 : h360 (95) = .inr (9, [.long 0]) := (hk362 (95) (by omega)).trans f352
  have f371 : h360 (96) = .inr (6, []) := (hk362 (96) (by omega)).trans f353
  have f372 : h360 (97) = .inr (2, []) := (hk362 (97) (by omega)).trans f354
  have f373 : h360 (98) = .inr (5, []) := (hk362 (98) (by omega)).trans f355
  have f374 : h360 (2) = .inr (11, [.ref 3, .ref 5, .ref 12, .ref 13, .ref 24, .ref 93, .ref 95, .ref 96, .ref 97, .ref 98, .null, .int 0, .int 0, .int 0, .int 0, .int 0]) := (hk362 (2) (by omega)).trans f345
  have B375 : BT (5) (12) h360 := BT_kl B356 hk362 (by omega)
  have B376 : BT (13) (24) h360 := BT_kl B357 hk362 (by omega)
  have B377 : BT (24) (93) h360 := BT_kl B358 hk362 (by omega)
  have K378 : KL (2) h h360 := KL_tr (by omega) K359 hk362
  refine r_dup rfl dX11_init_116 rfl ?_
  refine r_bud (kc' := 0 + (320)) (ks' := 0 + (1161)) (by omega) (by omega) ?_
  refine cl_X11_78 rfl rfl dX11_init_117 (Nat.le_of_ble_eq_true rfl) (s_X1_init hW361) ?_
  rintro _ h379 _ ⟨rfl, e380, rfl⟩
  replace e380 := e380.symm
  subst e380
  refine k_pc 10 (fs' := [.ref 3, .ref 5, .ref 12, .ref 13, .ref 24, .ref 93, .ref 95, .ref 96, .ref 97, .ref 98, .ref 99, .int 0, .int 0, .int 0, .int 0, .int 0]) rfl dX11_init_120 (by omega) (by omega) hW361 f374 (fp_X11_79 rfl rfl (by omega) _) (Nat.le_of_ble_eq_true rfl) rfl (fun h381 hW382 hk383 f384 => ?_)
  have f385 : h381 (3) = .inr (8, [.ref 4, .int 0, .int 0, .int 0, .int 0, .int 0]) := (hk383 (3) (by omega)).trans f364
  have f386 : h381 (4) = c4 (fun _ => 0) := (hk383 (4) (by omega)).trans f365
  have f387 : h381 (12) = .inl (4, 40, .inr (.inr (.inr (.inr (fun _ => none))))) := (hk383 (12) (by omega)).trans f366
  have f388 : h381 (24) = c24 0 0 0 0 := (hk383 (24) (by omega)).trans f367
  have f389 : h381 (93) = .inr (10, [.ref 94]) := (hk383 (93) (by omega)).trans f368
  have f390 : h381 (94) = .inl (1, 4, .inr (.inl (fun _ => 0))) := (hk383 (94) (by omega)).trans f369
  have f391 : h381 (95) = .inr (9, [.long 0]) := (hk383 (95) (by omega)).trans f370
  have f392 : h381 (96) = .inr (6, []) := (hk383 (96) (by omega)).trans f371
  have f393 : h381 (97) = .inr (2, []) := (hk383 (97) (by omega)).trans f372
  have f394 : h381 (98) = .inr (5, []) := (hk383 (98) (by omega)).trans f373
  have f395 : h381 (99) = .inr (1, []) := (hk383 (99) (by omega)).trans f363
  have B396 : BT (5) (12) h381 := BT_kn B375 hk383 (by omega)
  have B397 : BT (13) (24) h381 := BT_kn B376 hk383 (by omega)
  have B398 : BT (24) (93) h381 := BT_kn B377 hk383 (by omega)
  have K399 : KL (2) h h381 := KL_kn (by omega) K378 hk383
  refine r_aload_n rfl dX11_init_123 rfl ?_
  refine r_bipush (v := (-9)) rfl dX11_init_124 (by decide) ?_
  refine k_pc 14 (fs' := [.ref 3, .ref 5, .ref 12, .ref 13, .ref 24, .ref 93, .ref 95, .ref 96, .ref 97, .ref 98, .ref 99, .int 0, .int 0, .int 0, .int (-9), .int 0]) rfl dX11_init_126 (by omega) (by omega) hW382 f384 (fp_X11_82 rfl _) (Nat.le_of_ble_eq_true rfl) rfl (fun h400 hW401 hk402 f403 => ?_)
  have f404 : h400 (3) = .inr (8, [.ref 4, .int 0, .int 0, .int 0, .int 0, .int 0]) := (hk402 (3) (by omega)).trans f385
  have f405 : h400 (4) = c4 (fun _ => 0) := (hk402 (4) (by omega)).trans f386
  have f406 : h400 (12) = .inl (4, 40, .inr (.inr (.inr (.inr (fun _ => none))))) := (hk402 (12) (by omega)).trans f387
  have f407 : h400 (24) = c24 0 0 0 0 := (hk402 (24) (by omega)).trans f388
  have f408 : h400 (93) = .inr (10, [.ref 94]) := (hk402 (93) (by omega)).trans f389
  have f409 : h400 (94) = .inl (1, 4, .inr (.inl (fun _ => 0))) := (hk402 (94) (by omega)).trans f390
  have f410 : h400 (95) = .inr (9, [.long 0]) := (hk402 (95) (by omega)).trans f391
  have f411 : h400 (96) = .inr (6, []) := (hk402 (96) (by omega)).trans f392
  have f412 : h400 (97) = .inr (2, []) := (hk402 (97) (by omega)).trans f393
  have f413 : h400 (98) = .inr (5, []) := (hk402 (98) (by omega)).trans f394
  have f414 : h400 (99) = .inr (1, []) := (hk402 (99) (by omega)).trans f395
  have B415 : BT (5) (12) h400 := BT_kn B396 hk402 (by omega)
  have B416 : BT (13) (24) h400 := BT_kn B397 hk402 (by omega)
  have B417 : BT (24) (93) h400 := BT_kn B398 hk402 (by omega)
  have K418 : KL (2) h h400 := KL_kn (by omega) K399 hk402
  refine r_aload_n rfl dX11_init_129 rfl ?_
  refine r_bipush (v := (-9)) rfl dX11_init_130 (by decide) ?_
  refine k_pc 15 (fs' := [.ref 3, .ref 5, .ref 12, .ref 13, .ref 24, .ref 93, .ref 95, .ref 96, .ref 97, .ref 98, .ref 99, .int 0, .int 0, .int 0, .int (-9), .int (-9)]) rfl dX11_init_132 (by omega) (by omega) hW401 f403 (fp_X11_86 rfl _) (Nat.le_of_ble_eq_true rfl) rfl (fun h419 hW420 hk421 f422 => ?_)
  have f423 : h419 (3) = .inr (8, [.ref 4, .int 0, .int 0, .int 0, .int 0, .int 0]) := (hk421 (3) (by omega)).trans f404
  have f424 : h419 (4) = c4 (fun _ => 0) := (hk421 (4) (by omega)).trans f405
  have f425 : h419 (12) = .inl (4, 40, .inr (.inr (.inr (.inr (fun _ => none))))) := (hk421 (12) (by omega)).trans f406
  have f426 : h419 (24) = c24 0 0 0 0 := (hk421 (24) (by omega)).trans f407
  have f427 : h419 (93) = .inr (10, [.ref 94]) := (hk421 (93) (by omega)).trans f408
  have f428 : h419 (94) = .inl (1, 4, .inr (.inl (fun _ => 0))) := (hk421 (94) (by omega)).trans f409
  have f429 : h419 (95) = .inr (9, [.long 0]) := (hk421 (95) (by omega)).trans f410
  have f430 : h419 (96) = .inr (6, []) := (hk421 (96) (by omega)).trans f411
  have f431 : h419 (97) = .inr (2, []) := (hk421 (97) (by omega)).trans f412
  have f432 : h419 (98) = .inr (5, []) := (hk421 (98) (by omega)).trans f413
  have f433 : h419 (99) = .inr (1, []) := (hk421 (99) (by omega)).trans f414
  have B434 : BT (5) (12) h419 := BT_kn B415 hk421 (by omega)
  have B435 : BT (13) (24) h419 := BT_kn B416 hk421 (by omega)
  have B436 : BT (24) (93) h419 := BT_kn B417 hk421 (by omega)
  have K437 : KL (2) h h419 := KL_kn (by omega) K418 hk421
  refine r_iconst (v := 0) rfl dX11_init_135 (by decide) ?_
  refine r_istore_n (ls' := [some (.ref 2), some (.int 0)]) rfl dX11_init_136 (Nat.le_of_ble_eq_true rfl) rfl ?_
  refine r_bud (kc' := 8 * 40) (ks' := 29 * 40 + 1) rfl rfl ?_
  exact s_X11i 40 0 h419 rfl hW420 K437 f422 f423 f424 (by rw [f425, fl_all 100 8 40]) f426 f429 B434 (BT_jn (BT_jn (BT_jn (BT_jn (BT_jn (BT_jn (BT_jn B435 B436) (BT_ws wsAt_93 f427 f428)) (BT_1 f429 (sse_rf _))) (BT_1 f430 (sse_rf _))) (BT_1 f431 (sse_rf _))) (BT_1 f432 (sse_rf _))) (BT_1 f433 (sse_rf _)))
set_option maxRecDepth 20000 in
set_option maxHeartbeats 1000000 in
theorem s_X12_init {xs : Nat → Int32} {L d : Nat} {h : ev_H}  (hW : WTH h) (f0 : h 420 = .inr (12, [.int 0, .long 0, .null, .int 0, .int 0, .int 0, .int 0, .int 0, .int 0, .int 0, .int 0, .int 0, .int 0, .null, .null, .null, .null, .null, .null, .null, .null, .null, .null, .null, .null])) (hB : BT 2 420 h) : EV xs L (d + 3) (13) (1329) M_X12_init (421) h 0 [some (.ref 420)] [] (fun sz' h' r => sz' = 434 ∧ SH h' ∧ KL 420 h h' ∧ h' 420 = c420 0 0 0 0 0 0 0 0 0 0 0 (-9) ∧ h' 421 = c421 (fun _ => 0) ∧ r = []) := by
  refine r_aload_n rfl dX12_init_0 rfl ?_
  refine r_oinit rfl dX12_init_1 (Nat.succ_pos _) (Nat.le_of_ble_eq_true rfl) lo_X12 lk_oi lk_oc ?_
  refine r_aload_n rfl dX12_init_4 rfl ?_
  refine r_sipush (v := 300) rfl dX12_init_5 (by decide) ?_
  refine r_bud (kc' := 12 + 1) (ks' := 1029 + 300) (by omega) (by omega) ?_
  refine k_newa rfl dX12_init_8 hW (by decide) (by decide) (by decide) rfl lac_int (fun h51 hW52 hk53 f54 => ?_)
  have f55 : h51 (421) = .inl (0, 300, .inl (fun _ => 0)) := f54
  have f56 : h51 (420) = .inr (12, [.int 0, .long 0, .null, .int 0, .int 0, .int 0, .int 0, .int 0, .int 0, .int 0, .int 0, .int 0, .int 0, .null, .null, .null, .null, .null, .null, .null, .null, .null, .null, .null, .null]) := (hk53 (420) (by omega)).trans f0
  have B57 : BT (2) (420) h51 := BT_kl hB hk53 (by omega)
  have K58 : KL (420) h h51 := KL_tr (by omega) (KL_rf (420) h) hk53
  refine k_pc 2 (fs' := [.int 0, .long 0, .ref 421, .int 0, .int 0, .int 0, .int 0, .int 0, .int 0, .int 0, .int 0, .int 0, .int 0, .null, .null, .null, .null, .null, .null, .null, .null, .null, .null, .null, .null]) rfl dX12_init_10 (by omega) (by omega) hW52 f56 (fp_X12_7 rfl rfl (by omega) _) (Nat.le_of_ble_eq_true rfl) rfl (fun h59 hW60 hk61 f62 => ?_)
  have f63 : h59 (421) = .inl (0, 300, .inl (fun _ => 0)) := (hk61 (421) (by omega)).trans f55
  have B64 : BT (2) (420) h59 := BT_kn B57 hk61 (by omega)
  have K65 : KL (420) h h59 := KL_kn (by omega) K58 hk61
  refine r_aload_n rfl dX12_init_13 rfl ?_
  refine r_bipush (v := (-9)) rfl dX12_init_14 (by decide) ?_
  refine k_pc 12 (fs' := [.int 0, .long 0, .ref 421, .int 0, .int 0, .int 0, .int 0, .int 0, .int 0, .int 0, .int 0, .int 0, .int (-9), .null, .null, .null, .null, .null, .null, .null, .null, .null, .null, .null, .null]) rfl dX12_init_16 (by omega) (by omega) hW60 f62 (fp_X12_13 rfl _) (Nat.le_of_ble_eq_true rfl) rfl (fun h66 hW67 hk68 f69 => ?_)
  have f70 : h66 (421) = .inl (0, 300, .inl (fun _ => 0)) := (hk68 (421) (by omega)).trans f63
  have B71 : BT (2) (420) h66 := BT_kn B64 hk68 (by omega)
  have K72 : KL (420) h h66 := KL_kn (by omega) K65 hk68
  refine r_aload_n rfl dX12_init_19 rfl ?_
  refine r_sipush (v := 240) rfl dX12_init_20 (by decide) ?_
  refine r_bud (kc' := 11 + 1) (ks' := 789 + 240) (by omega) (by omega) ?_
  refine k_newa rfl dX12_init_23 hW67 (by decide) (by decide) (by decide) rfl lac_int (fun h73 hW74 hk75 f76 => ?_)
  have f77 : h73 (422) = .inl (0, 240, .inl (fun _ => 0)) := f76
  have f78 : h73 (421) = .inl (0, 300, .inl (fun _ => 0)) := (hk75 (421) (by omega)).trans f70
  have f79 : h73 (420) = .inr (12, [.int 0, .long 0, .ref 421, .int 0, .int 0, .int 0, .int 0, .int 0, .int 0, .int 0, .int 0, .int 0, .int (-9), .null, .null, .null, .null, .null, .null, .null, .null, .null, .null, .null, .null]) := (hk75 (420) (by omega)).trans f69
  have B80 : BT (2) (420) h73 := BT_kl B71 hk75 (by omega)
  have K81 : KL (420) h h73 := KL_tr (by omega) K72 hk75
  refine k_pc 13 (fs' := [.int 0, .long 0, .ref 421, .int 0, .int 0, .int 0, .int 0, .int 0, .int 0, .int 0, .int 0, .int 0, .int (-9), .ref 422, .null, .null, .null, .null, .null, .null, .null, .null, .null, .null, .null]) rfl dX12_init_25 (by omega) (by omega) hW74 f79 (fp_X12_17 rfl rfl (by omega) _) (Nat.le_of_ble_eq_true rfl) rfl (fun h82 hW83 hk84 f85 => ?_)
  have f86 : h82 (421) = .inl (0, 300, .inl (fun _ => 0)) := (hk84 (421) (by omega)).trans f78
  have f87 : h82 (422) = .inl (0, 240, .inl (fun _ => 0)) := (hk84 (422) (by omega)).trans f77
  have B88 : BT (2) (420) h82 := BT_kn B80 hk84 (by omega)
  have K89 : KL (420) h h82 := KL_kn (by omega) K81 hk84
  refine r_aload_n rfl dX12_init_28 rfl ?_
  refine r_bipush (v := 48) rfl dX12_init_29 (by decide) ?_
  refine r_bud (kc' := 10 + 1) (ks' := 741 + 48) (by omega) (by omega) ?_
  refine k_newa rfl dX12_init_31 hW83 (by decide) (by decide) (by decide) rfl lac_int (fun h90 hW91 hk92 f93 => ?_)
  have f94 : h90 (423) = .inl (0, 48, .inl (fun _ => 0)) := f93
  have f95 : h90 (421) = .inl (0, 300, .inl (fun _ => 0)) := (hk92 (421) (by omega)).trans f86
  have f96 : h90 (422) = .inl (0, 240, .inl (fun _ => 0)) := (hk92 (422) (by omega)).trans f87
  have f97 : h90 (420) = .inr (12, [.int 0, .long 0, .ref 421, .int 0, .int 0, .int 0, .int 0, .int 0, .int 0, .int 0, .int 0, .int 0, .int (-9), .ref 422, .null, .null, .null, .null, .null, .null, .null, .null, .null, .null, .null]) := (hk92 (420) (by omega)).trans f85
  have B98 : BT (2) (420) h90 := BT_kl B88 hk92 (by omega)
  have K99 : KL (420) h h90 := KL_tr (by omega) K89 hk92
  refine k_pc 14 (fs' := [.int 0, .long 0, .ref 421, .int 0, .int 0, .int 0, .int 0, .int 0, .int 0, .int 0, .int 0, .int 0, .int (-9), .ref 422, .ref 423, .null, .null, .null, .null, .null, .null, .null, .null, .null, .null]) rfl dX12_init_33 (by omega) (by omega) hW91 f97 (fp_X12_20 rfl rfl (by omega) _) (Nat.le_of_ble_eq_true rfl) rfl (fun h100 hW101 hk102 f103 => ?_)
  have f104 : h100 (421) = .inl (0, 300, .inl (fun _ => 0)) := (hk102 (421) (by omega)).trans f95
  have f105 : h100 (422) = .inl (0, 240, .inl (fun _ => 0)) := (hk102 (422) (by omega)).trans f96
  have f106 : h100 (423) = .inl (0, 48, .inl (fun _ => 0)) := (hk102 (423) (by omega)).trans f94
  have B107 : BT (2) (420) h100 := BT_kn B98 hk102 (by omega)
  have K108 : KL (420) h h100 := KL_kn (by omega) K99 hk102
  refine r_aload_n rfl dX12_init_36 rfl ?_
  refine r_bipush (v := 72) rfl dX12_init_37 (by decide) ?_
  refine r_bud (kc' := 9 + 1) (ks' := 669 + 72) (by omega) (by omega) ?_
  refine k_newa rfl dX12_init_39 hW101 (by decide) (by decide) (by decide) rfl lac_int (fun h109 hW110 hk111 f112 => ?_)
  have f113 : h109 (424) = .inl (0, 72, .inl (fun _ => 0)) := f112
  have f114 : h109 (421) = .inl (0, 300, .inl (fun _ => 0)) := (hk111 (421) (by omega)).trans f104
  have f115 : h109 (422) = .inl (0, 240, .inl (fun _ => 0)) := (hk111 (422) (by omega)).trans f105
  have f116 : h109 (423) = .inl (0, 48, .inl (fun _ => 0)) := (hk111 (423) (by omega)).trans f106
  have f117 : h109 (420) = .inr (12, [.int 0, .long 0, .ref 421, .int 0, .int 0, .int 0, .int 0, .int 0, .int 0, .int 0, .int 0, .int 0, .int (-9), .ref 422, .ref 423, .null, .null, .null, .null, .null, .null, .null, .null, .null, .null]) := (hk111 (420) (by omega)).trans f103
  have B118 : BT (2) (420) h109 := BT_kl B107 hk111 (by omega)
  have K119 : KL (420) h h109 := KL_tr (by omega) K108 hk111
  refine k_pc 15 (fs' := [.int 0, .long 0, .ref 421, .int 0, .int 0, .int 0, .int 0, .int 0, .int 0, .int 0, .int 0, .int 0, .int (-9), .ref 422, .ref 423, .ref 424, .null, .null, .null, .null, .null, .null, .null, .null, .null]) rfl dX12_init_41 (by omega) (by omega) hW110 f117 (fp_X12_23 rfl rfl (by omega) _) (Nat.le_of_ble_eq_true rfl) rfl (fun h120 hW121 hk122 f123 => ?_)
  have f124 : h120 (421) = .inl (0, 300, .inl (fun _ => 0)) := (hk122 (421) (by omega)).trans f114
  have f125 : h120 (422) = .inl (0, 240, .inl (fun _ => 0)) := (hk122 (422) (by omega)).trans f115
  have f126 : h120 (423) = .inl (0, 48, .inl (fun _ => 0)) := (hk122 (423) (by omega)).trans f116
  have f127 : h120 (424) = .inl (0, 72, .inl (fun _ => 0)) := (hk122 (424) (by omega)).trans f113
  have B128 : BT (2) (420) h120 := BT_kn B118 hk122 (by omega)
  have K129 : KL (420) h h120 := KL_kn (by omega) K119 hk122
  refine r_aload_n rfl dX12_init_44 rfl ?_
  refine r_sipush (v := 160) rfl dX12_init_45 (by decide) ?_
  refine r_bud (kc' := 8 + 1) (ks' := 509 + 160) (by omega) (by omega) ?_
  refine k_newa rfl dX12_init_48 hW121 (by decide) (by decide) (by decide) rfl lac_long (fun h130 hW131 hk132 f133 => ?_)
  have f134 : h130 (425) = .inl (1, 160, .inr (.inl (fun _ => 0))) := f133
  have f135 : h130 (421) = .inl (0, 300, .inl (fun _ => 0)) := (hk132 (421) (by omega)).trans f124
  have f136 : h130 (422) = .inl (0, 240, .inl (fun _ => 0)) := (hk132 (422) (by omega)).trans f125
  have f137 : h130 (423) = .inl (0, 48, .inl (fun _ => 0)) := (hk132 (423) (by omega)).trans f126
  have f138 : h130 (424) = .inl (0, 72, .inl (fun _ => 0)) := (hk132 (424) (by omega)).trans f127
  have f139 : h130 (420) = .inr (12, [.int 0, .long 0, .ref 421, .int 0, .int 0, .int 0, .int 0, .int 0, .int 0, .int 0, .int 0, .int 0, .int (-9), .ref 422, .ref 423, .ref 424, .null, .null, .null, .null, .null, .null, .null, .null, .null]) := (hk132 (420) (by omega)).trans f123
  have B140 : BT (2) (420) h130 := BT_kl B128 hk132 (by omega)
  have K141 : KL (420) h h130 := KL_tr (by omega) K129 hk132
  refine k_pc 16 (fs' := [.int 0, .long 0, .ref 421, .int 0, .int 0, .int 0, .int 0, .int 0, .int 0, .int 0, .int 0, .int 0, .int (-9), .ref 422, .ref 423, .ref 424, .ref 425, .null, .null, .null, .null, .null, .null, .null, .null]) rfl dX12_init_50 (by omega) (by omega) hW131 f139 (fp_X12_26 rfl rfl (by omega) _) (Nat.le_of_ble_eq_true rfl) rfl (fun h142 hW143 hk144 f145 => ?_)
  have f146 : h142 (421) = .inl (0, 300, .inl (fun _ => 0)) := (hk144 (421) (by omega)).trans f135
  have f147 : h142 (422) = .inl (0, 240, .inl (fun _ => 0)) := (hk144 (422) (by omega)).trans f136
  have f148 : h142 (423) = .inl (0, 48, .inl (fun _ => 0)) := (hk144 (423) (by omega)).trans f137
  have f149 : h142 (424) = .inl (0, 72, .inl (fun _ => 0)) := (hk144 (424) (by omega)).trans f138
  have f150 : h142 (425) = .inl (1, 160, .inr (.inl (fun _ => 0))) := (hk144 (425) (by omega)).trans f134
  have B151 : BT (2) (420) h142 := BT_kn B140 hk144 (by omega)
  have K152 : KL (420) h h142 := KL_kn (by omega) K141 hk144
  refine r_aload_n rfl dX12_init_53 rfl ?_
  refine r_sipush (v := 480) rfl dX12_init_54 (by decide) ?_
  refine r_bud (kc' := 7 + 1) (ks' := 29 + 480) (by omega) (by omega) ?_
  refine k_newa rfl dX12_init_57 hW143 (by decide) (by decide) (by decide) rfl lac_long (fun h153 hW154 hk155 f156 => ?_)
  have f157 : h153 (426) = .inl (1, 480, .inr (.inl (fun _ => 0))) := f156
  have f158 : h153 (421) = .inl (0, 300, .inl (fun _ => 0)) := (hk155 (421) (by omega)).trans f146
  have f159 : h153 (422) = .inl (0, 240, .inl (fun _ => 0)) := (hk155 (422) (by omega)).trans f147
  have f160 : h153 (423) = .inl (0, 48, .inl (fun _ => 0)) := (hk155 (423) (by omega)).trans f148
  have f161 : h153 (424) = .inl (0, 72, .inl (fun _ => 0)) := (hk155 (424) (by omega)).trans f149
  have f162 : h153 (425) = .inl (1, 160, .inr (.inl (fun _ => 0))) := (hk155 (425) (by omega)).trans f150
  have f163 : h153 (420) = .inr (12, [.int 0, .long 0, .ref 421, .int 0, .int 0, .int 0, .int 0, .int 0, .int 0, .int 0, .int 0, .int 0, .int (-9), .ref 422, .ref 423, .ref 424, .ref 425, .null, .null, .null, .null, .null, .null, .null, .null]) := (hk155 (420) (by omega)).trans f145
  have B164 : BT (2) (420) h153 := BT_kl B151 hk155 (by omega)
  have K165 : KL (420) h h153 := KL_tr (by omega) K152 hk155
  refine k_pc 17 (fs' := [.int 0, .long 0, .ref 421, .int 0, .int 0, .int 0, .int 0, .int 0, .int 0, .int 0, .int 0, .int 0, .int (-9), .ref 422, .ref 423, .ref 424, .ref 425, .ref 426, .null, .null, .null, .null, .null, .null, .null]) rfl dX12_init_59 (by omega) (by omega) hW154 f163 (fp_X12_30 rfl rfl (by omega) _) (Nat.le_of_ble_eq_true rfl) rfl (fun h166 hW167 hk168 f169 => ?_)
  have f170 : h166 (421) = .inl (0, 300, .inl (fun _ => 0)) := (hk168 (421) (by omega)).trans f158
  have f171 : h166 (422) = .inl (0, 240, .inl (fun _ => 0)) := (hk168 (422) (by omega)).trans f159
  have f172 : h166 (423) = .inl (0, 48, .inl (fun _ => 0)) := (hk168 (423) (by omega)).trans f160
  have f173 : h166 (424) = .inl (0, 72, .inl (fun _ => 0)) := (hk168 (424) (by omega)).trans f161
  have f174 : h166 (425) = .inl (1, 160, .inr (.inl (fun _ => 0))) := (hk168 (425) (by omega)).trans f162
  have f175 : h166 (426) = .inl (1, 480, .inr (.inl (fun _ => 0))) := (hk168 (426) (by omega)).trans f157
  have B176 : BT (2) (420) h166 := BT_kn B164 hk168 (by omega)
  have K177 : KL (420) h h166 := KL_kn (by omega) K165 hk168
  refine r_aload_n rfl dX12_init_62 rfl ?_
  refine r_iconst (v := 4) rfl dX12_init_63 (by decide) ?_
  refine r_bud (kc' := 6 + 1) (ks' := 25 + 4) (by omega) (by omega) ?_
  refine k_newa rfl dX12_init_64 hW167 (by decide) (by decide) (by decide) rfl lac_long (fun h178 hW179 hk180 f181 => ?_)
  have f182 : h178 (427) = .inl (1, 4, .inr (.inl (fun _ => 0))) := f181
  have f183 : h178 (421) = .inl (0, 300, .inl (fun _ => 0)) := (hk180 (421) (by omega)).trans f170
  have f184 : h178 (422) = .inl (0, 240, .inl (fun _ => 0)) := (hk180 (422) (by omega)).trans f171
  have f185 : h178 (423) = .inl (0, 48, .inl (fun _ => 0)) := (hk180 (423) (by omega)).trans f172
  have f186 : h178 (424) = .inl (0, 72, .inl (fun _ => 0)) := (hk180 (424) (by omega)).trans f173
  have f187 : h178 (425) = .inl (1, 160, .inr (.inl (fun _ => 0))) := (hk180 (425) (by omega)).trans f174
  have f188 : h178 (426) = .inl (1, 480, .inr (.inl (fun _ => 0))) := (hk180 (426) (by omega)).trans f175
  have f189 : h178 (420) = .inr (12, [.int 0, .long 0, .ref 421, .int 0, .int 0, .int 0, .int 0, .int 0, .int 0, .int 0, .int 0, .int 0, .int (-9), .ref 422, .ref 423, .ref 424, .ref 425, .ref 426, .null, .null, .null, .null, .null, .null, .null]) := (hk180 (420) (by omega)).trans f169
  have B190 : BT (2) (420) h178 := BT_kl B176 hk180 (by omega)
  have K191 : KL (420) h h178 := KL_tr (by omega) K177 hk180
  refine k_pc 18 (fs' := [.int 0, .long 0, .ref 421, .int 0, .int 0, .int 0, .int 0, .int 0, .int 0, .int 0, .int 0, .int 0, .int (-9), .ref 422, .ref 423, .ref 424, .ref 425, .ref 426, .ref 427, .null, .null, .null, .null, .null, .null]) rfl dX12_init_66 (by omega) (by omega) hW179 f189 (fp_X12_33 rfl rfl (by omega) _) (Nat.le_of_ble_eq_true rfl) rfl (fun h192 hW193 hk194 f195 => ?_)
  have f196 : h192 (421) = .inl (0, 300, .inl (fun _ => 0)) := (hk194 (421) (by omega)).trans f183
  have f197 : h192 (422) = .inl (0, 240, .inl (fun _ => 0)) := (hk194 (422) (by omega)).trans f184
  have f198 : h192 (423) = .inl (0, 48, .inl (fun _ => 0)) := (hk194 (423) (by omega)).trans f185
  have f199 : h192 (424) = .inl (0, 72, .inl (fun _ => 0)) := (hk194 (424) (by omega)).trans f186
  have f200 : h192 (425) = .inl (1, 160, .inr (.inl (fun _ => 0))) := (hk194 (425) (by omega)).trans f187
  have f201 : h192 (426) = .inl (1, 480, .inr (.inl (fun _ => 0))) := (hk194 (426) (by omega)).trans f188
  have f202 : h192 (427) = .inl (1, 4, .inr (.inl (fun _ => 0))) := (hk194 (427) (by omega)).trans f182
  have B203 : BT (2) (420) h192 := BT_kn B190 hk194 (by omega)
  have K204 : KL (420) h h192 := KL_kn (by omega) K191 hk194
  refine r_aload_n rfl dX12_init_69 rfl ?_
  refine r_iconst (v := 4) rfl dX12_init_70 (by decide) ?_
  refine r_bud (kc' := 5 + 1) (ks' := 21 + 4) (by omega) (by omega) ?_
  refine k_newa rfl dX12_init_71 hW193 (by decide) (by decide) (by decide) rfl lac_long (fun h205 hW206 hk207 f208 => ?_)
  have f209 : h205 (428) = .inl (1, 4, .inr (.inl (fun _ => 0))) := f208
  have f210 : h205 (421) = .inl (0, 300, .inl (fun _ => 0)) := (hk207 (421) (by omega)).trans f196
  have f211 : h205 (422) = .inl (0, 240, .inl (fun _ => 0)) := (hk207 (422) (by omega)).trans f197
  have f212 : h205 (423) = .inl (0, 48, .inl (fun _ => 0)) := (hk207 (423) (by omega)).trans f198
  have f213 : h205 (424) = .inl (0, 72, .inl (fun _ => 0)) := (hk207 (424) (by omega)).trans f199
  have f214 : h205 (425) = .inl (1, 160, .inr (.inl (fun _ => 0))) := (hk207 (425) (by omega)).trans f200
  have f215 : h205 (426) = .inl (1, 480, .inr (.inl (fun _ => 0))) := (hk207 (426) (by omega)).trans f201
  have f216 : h205 (427) = .inl (1, 4, .inr (.inl (fun _ => 0))) := (hk207 (427) (by omega)).trans f202
  have f217 : h205 (420) = .inr (12, [.int 0, .long 0, .ref 421, .int 0, .int 0, .int 0, .int 0, .int 0, .int 0, .int 0, .int 0, .int 0, .int (-9), .ref 422, .ref 423, .ref 424, .ref 425, .ref 426, .ref 427, .null, .null, .null, .null, .null, .null]) := (hk207 (420) (by omega)).trans f195
  have B218 : BT (2) (420) h205 := BT_kl B203 hk207 (by omega)
  have K219 : KL (420) h h205 := KL_tr (by omega) K204 hk207
  refine k_pc 19 (fs' := [.int 0, .long 0, .ref 421, .int 0, .int 0, .int 0, .int 0, .int 0, .int 0, .int 0, .int 0, .int 0, .int (-9), .ref 422, .ref 423, .ref 424, .ref 425, .ref 426, .ref 427, .ref 428, .null, .null, .null, .null, .null]) rfl dX12_init_73 (by omega) (by omega) hW206 f217 (fp_X12_36 rfl rfl (by omega) _) (Nat.le_of_ble_eq_true rfl) rfl (fun h220 hW221 hk222 f223 => ?_)
  have f224 : h220 (421) = .inl (0, 300, .inl (fun _ => 0)) := (hk222 (421) (by omega)).trans f210
  have f225 : h220 (422) = .inl (0, 240, .inl (fun _ => 0)) := (hk222 (422) (by omega)).trans f211
  have f226 : h220 (423) = .inl (0, 48, .inl (fun _ => 0)) := (hk222 (423) (by omega)).trans f212
  have f227 : h220 (424) = .inl (0, 72, .inl (fun _ => 0)) := (hk222 (424) (by omega)).trans f213
  have f228 : h220 (425) = .inl (1, 160, .inr (.inl (fun _ => 0))) := (hk222 (425) (by omega)).trans f214
  have f229 : h220 (426) = .inl (1, 480, .inr (.inl (fun _ => 0))) := (hk222 (426) (by omega)).trans f215
  have f230 : h220 (427) = .inl (1, 4, .inr (.inl (fun _ => 0))) := (hk222 (427) (by omega)).trans f216
  have f231 : h220 (428) = .inl (1, 4, .inr (.inl (fun _ => 0))) := (hk222 (428) (by omega)).trans f209
  have B232 : BT (2) (420) h220 := BT_kn B218 hk222 (by omega)
  have K233 : KL (420) h h220 := KL_kn (by omega) K219 hk222
  refine r_aload_n rfl dX12_init_76 rfl ?_
  refine r_iconst (v := 4) rfl dX12_init_77 (by decide) ?_
  refine r_bud (kc' := 4 + 1) (ks' := 17 + 4) (by omega) (by omega) ?_
  refine k_newa rfl dX12_init_78 hW221 (by decide) (by decide) (by decide) rfl lac_long (fun h234 hW235 hk236 f237 => ?_)
  have f238 : h234 (429) = .inl (1, 4, .inr (.inl (fun _ => 0))) := f237
  have f239 : h234 (421) = .inl (0, 300, .inl (fun _ => 0)) := (hk236 (421) (by omega)).trans f224
  have f240 : h234 (422) = .inl (0, 240, .inl (fun _ => 0)) := (hk236 (422) (by omega)).trans f225
  have f241 : h234 (423) = .inl (0, 48, .inl (fun _ => 0)) := (hk236 (423) (by omega)).trans f226
  have f242 : h234 (424) = .inl (0, 72, .inl (fun _ => 0)) := (hk236 (424) (by omega)).trans f227
  have f243 : h234 (425) = .inl (1, 160, .inr (.inl (fun _ => 0))) := (hk236 (425) (by omega)).trans f228
  have f244 : h234 (426) = .inl (1, 480, .inr (.inl (fun _ => 0))) := (hk236 (426) (by omega)).trans f229
  have f245 : h234 (427) = .inl (1, 4, .inr (.inl (fun _ => 0))) := (hk236 (427) (by omega)).trans f230
  have f246 : h234 (428) = .inl (1, 4, .inr (.inl (fun _ => 0))) := (hk236 (428) (by omega)).trans f231
  have f247 : h234 (420) = .inr (12, [.int 0, .long 0, .ref 421, .int 0, .int 0, .int 0, .int 0, .int 0, .int 0, .int 0, .int 0, .int 0, .int (-9), .ref 422, .ref 423, .ref 424, .ref 425, .ref 426, .ref 427, .ref 428, .null, .null, .null, .null, .null]) := (hk236 (420) (by omega)).trans f223
  have B248 : BT (2) (420) h234 := BT_kl B232 hk236 (by omega)
  have K249 : KL (420) h h234 := KL_tr (by omega) K233 hk236
  refine k_pc 20 (fs' := [.int 0, .long 0, .ref 421, .int 0, .int 0, .int 0, .int 0, .int 0, .int 0, .int 0, .int 0, .int 0, .int (-9), .ref 422, .ref 423, .ref 424, .ref 425, .ref 426, .ref 427, .ref 428, .ref 429, .null, .null, .null, .null]) rfl dX12_init_80 (by omega) (by omega) hW235 f247 (fp_X12_39 rfl rfl (by omega) _) (Nat.le_of_ble_eq_true rfl) rfl (fun h250 hW251 hk252 f253 => ?_)
  have f254 : h250 (421) = .inl (0, 300, .inl (fun _ => 0)) := (hk252 (421) (by omega)).trans f239
  have f255 : h250 (422) = .inl (0, 240, .inl (fun _ => 0)) := (hk252 (422) (by omega)).trans f240
  have f256 : h250 (423) = .inl (0, 48, .inl (fun _ => 0)) := (hk252 (423) (by omega)).trans f241
  have f257 : h250 (424) = .inl (0, 72, .inl (fun _ => 0)) := (hk252 (424) (by omega)).trans f242
  have f258 : h250 (425) = .inl (1, 160, .inr (.inl (fun _ => 0))) := (hk252 (425) (by omega)).trans f243
  have f259 : h250 (426) = .inl (1, 480, .inr (.inl (fun _ => 0))) := (hk252 (426) (by omega)).trans f244
  have f260 : h250 (427) = .inl (1, 4, .inr (.inl (fun _ => 0))) := (hk252 (427) (by omega)).trans f245
  have f261 : h250 (428) = .inl (1, 4, .inr (.inl (fun _ => 0))) := (hk252 (428) (by omega)).trans f246
  have f262 : h250 (429) = .inl (1, 4, .inr (.inl (fun _ => 0))) := (hk252 (429) (by omega)).trans f238
  have B263 : BT (2) (420) h250 := BT_kn B248 hk252 (by omega)
  have K264 : KL (420) h h250 := KL_kn (by omega) K249 hk252
  refine r_aload_n rfl dX12_init_83 rfl ?_
  refine r_iconst (v := 4) rfl dX12_init_84 (by decide) ?_
  refine r_bud (kc' := 3 + 1) (ks' := 13 + 4) (by omega) (by omega) ?_
  refine k_newa rfl dX12_init_85 hW251 (by decide) (by decide) (by decide) rfl lac_long (fun h265 hW266 hk267 f268 => ?_)
  have f269 : h265 (430) = .inl (1, 4, .inr (.inl (fun _ => 0))) := f268
  have f270 : h265 (421) = .inl (0, 300, .inl (fun _ => 0)) := (hk267 (421) (by omega)).trans f254
  have f271 : h265 (422) = .inl (0, 240, .inl (fun _ => 0)) := (hk267 (422) (by omega)).trans f255
  have f272 : h265 (423) = .inl (0, 48, .inl (fun _ => 0)) := (hk267 (423) (by omega)).trans f256
  have f273 : h265 (424) = .inl (0, 72, .inl (fun _ => 0)) := (hk267 (424) (by omega)).trans f257
  have f274 : h265 (425) = .inl (1, 160, .inr (.inl (fun _ => 0))) := (hk267 (425) (by omega)).trans f258
  have f275 : h265 (426) = .inl (1, 480, .inr (.inl (fun _ => 0))) := (hk267 (426) (by omega)).trans f259
  have f276 : h265 (427) = .inl (1, 4, .inr (.inl (fun _ => 0))) := (hk267 (427) (by omega)).trans f260
  have f277 : h265 (428) = .inl (1, 4, .inr (.inl (fun _ => 0))) := (hk267 (428) (by omega)).trans f261
  have f278 : h265 (429) = .inl (1, 4, .inr (.inl (fun _ => 0))) := (hk267 (429) (by omega)).trans f262
  have f279 : h265 (420) = .inr (12, [.int 0, .long 0, .ref 421, .int 0, .int 0, .int 0, .int 0, .int 0, .int 0, .int 0, .int 0, .int 0, .int (-9), .ref 422, .ref 423, .ref 424, .ref 425, .ref 426, .ref 427, .ref 428, .ref 429, .null, .null, .null, .null]) := (hk267 (420) (by omega)).trans f253
  have B280 : BT (2) (420) h265 := BT_kl B263 hk267 (by omega)
  have K281 : KL (420) h h265 := KL_tr (by omega) K264 hk267
  refine k_pc 21 (fs' := [.int 0, .long 0, .ref 421, .int 0, .int 0, .int 0, .int 0, .int 0, .int 0, .int 0, .int 0, .int 0, .int (-9), .ref 422, .ref 423, .ref 424, .ref 425, .ref 426, .ref 427, .ref 428, .ref 429, .ref 430, .null, .null, .null]) rfl dX12_init_87 (by omega) (by omega) hW266 f279 (fp_X12_42 rfl rfl (by omega) _) (Nat.le_of_ble_eq_true rfl) rfl (fun h282 hW283 hk284 f285 => ?_)
  have f286 : h282 (421) = .inl (0, 300, .inl (fun _ => 0)) := (hk284 (421) (by omega)).trans f270
  have f287 : h282 (422) = .inl (0, 240, .inl (fun _ => 0)) := (hk284 (422) (by omega)).trans f271
  have f288 : h282 (423) = .inl (0, 48, .inl (fun _ => 0)) := (hk284 (423) (by omega)).trans f272
  have f289 : h282 (424) = .inl (0, 72, .inl (fun _ => 0)) := (hk284 (424) (by omega)).trans f273
  have f290 : h282 (425) = .inl (1, 160, .inr (.inl (fun _ => 0))) := (hk284 (425) (by omega)).trans f274
  have f291 : h282 (426) = .inl (1, 480, .inr (.inl (fun _ => 0))) := (hk284 (426) (by omega)).trans f275
  have f292 : h282 (427) = .inl (1, 4, .inr (.inl (fun _ => 0))) := (hk284 (427) (by omega)).trans f276
  have f293 : h282 (428) = .inl (1, 4, .inr (.inl (fun _ => 0))) := (hk284 (428) (by omega)).trans f277
  have f294 : h282 (429) = .inl (1, 4, .inr (.inl (fun _ => 0))) := (hk284 (429) (by omega)).trans f278
  have f295 : h282 (430) = .inl (1, 4, .inr (.inl (fun _ => 0))) := (hk284 (430) (by omega)).trans f269
  have B296 : BT (2) (420) h282 := BT_kn B280 hk284 (by omega)
  have K297 : KL (420) h h282 := KL_kn (by omega) K281 hk284
  refine r_aload_n rfl dX12_init_90 rfl ?_
  refine r_iconst (v := 4) rfl dX12_init_91 (by decide) ?_
  refine r_bud (kc' := 2 + 1) (ks' := 9 + 4) (by omega) (by omega) ?_
  refine k_newa rfl dX12_init_92 hW283 (by decide) (by decide) (by decide) rfl lac_long (fun h298 hW299 hk300 f301 => ?_)
  have f302 : h298 (431) = .inl (1, 4, .inr (.inl (fun _ => 0))) := f301
  have f303 : h298 (421) = .inl (0, 300, .inl (fun _ => 0)) := (hk300 (421) (by omega)).trans f286
  have f304 : h298 (422) = .inl (0, 240, .inl (fun _ => 0)) := (hk300 (422) (by omega)).trans f287
  have f305 : h298 (423) = .inl (0, 48, .inl (fun _ => 0)) := (hk300 (423) (by omega)).trans f288
  have f306 : h298 (424) = .inl (0, 72, .inl (fun _ => 0)) := (hk300 (424) (by omega)).trans f289
  have f307 : h298 (425) = .inl (1, 160, .inr (.inl (fun _ => 0))) := (hk300 (425) (by omega)).trans f290
  have f308 : h298 (426) = .inl (1, 480, .inr (.inl (fun _ => 0))) := (hk300 (426) (by omega)).trans f291
  have f309 : h298 (427) = .inl (1, 4, .inr (.inl (fun _ => 0))) := (hk300 (427) (by omega)).trans f292
  have f310 : h298 (428) = .inl (1, 4, .inr (.inl (fun _ => 0))) := (hk300 (428) (by omega)).trans f293
  have f311 : h298 (429) = .inl (1, 4, .inr (.inl (fun _ => 0))) := (hk300 (429) (by omega)).trans f294
  have f312 : h298 (430) = .inl (1, 4, .inr (.inl (fun _ => 0))) := (hk300 (430) (by omega)).trans f295
  have f313 : h298 (420) = .inr (12, [.int 0, .long 0, .ref 421, .int 0, .int 0, .int 0, .int 0, .int 0, .int 0, .int 0, .int 0, .int 0, .int (-9), .ref 422, .ref 423, .ref 424, .ref 425, .ref 426, .ref 427, .ref 428, .ref 429, .ref 430, .null, .null, .null]) := (hk300 (420) (by omega)).trans f285
  have B314 : BT (2) (420) h298 := BT_kl B296 hk300 (by omega)
  have K315 : KL (420) h h298 := KL_tr (by omega) K297 hk300
  refine k_pc 22 (fs' := [.int 0, .long 0, .ref 421, .int 0, .int 0, .int 0, .int 0, .int 0, .int 0, .int 0, .int 0, .int 0, .int (-9), .ref 422, .ref 423, .ref 424, .ref 425, .ref 426, .ref 427, .ref 428, .ref 429, .ref 430, .ref 431, .null, .null]) rfl dX12_init_94 (by omega) (by omega) hW299 f313 (fp_X12_45 rfl rfl (by omega) _) (Nat.le_of_ble_eq_true rfl) rfl (fun h316 hW317 hk318 f319 => ?_)
  have f320 : h316 (421) = .inl (0, 300, .inl (fun _ => 0)) := (hk318 (421) (by omega)).trans f303
  have f321 : h316 (422) = .inl (0, 240, .inl (fun _ => 0)) := (hk318 (422) (by omega)).trans f304
  have f322 : h316 (423) = .inl (0, 48, .inl (fun _ => 0)) := (hk318 (423) (by omega)).trans f305
  have f323 : h316 (424) = .inl (0, 72, .inl (fun _ => 0)) := (hk318 (424) (by omega)).trans f306
  have f324 : h316 (425) = .inl (1, 160, .inr (.inl (fun _ => 0))) := (hk318 (425) (by omega)).trans f307
  have f325 : h316 (426) = .inl (1, 480, .inr (.inl (fun _ => 0))) := (hk318 (426) (by omega)).trans f308
  have f326 : h316 (427) = .inl (1, 4, .inr (.inl (fun _ => 0))) := (hk318 (427) (by omega)).trans f309
  have f327 : h316 (428) = .inl (1, 4, .inr (.inl (fun _ => 0))) := (hk318 (428) (by omega)).trans f310
  have f328 : h316 (429) = .inl (1, 4, .inr (.inl (fun _ => 0))) := (hk318 (429) (by omega)).trans f311
  have f329 : h316 (430) = .inl (1, 4, .inr (.inl (fun _ => 0))) := (hk318 (430) (by omega)).trans f312
  have f330 : h316 (431) = .inl (1, 4, .inr (.inl (fun _ => 0))) := (hk318 (431) (by omega)).trans f302
  have B331 : BT (2) (420) h316 := BT_kn B314 hk318 (by omega)
  have K332 : KL (420) h h316 := KL_kn (by omega) K315 hk318
  refine r_aload_n rfl dX12_init_97 rfl ?_
  refine r_iconst (v := 4) rfl dX12_init_98 (by decide) ?_
  refine r_bud (kc' := 1 + 1) (ks' := 5 + 4) (by omega) (by omega) ?_
  refine k_newa rfl dX12_init_99 hW317 (by decide) (by decide) (by decide) rfl lac_long (fun h333 hW334 hk335 f336 => ?_)
  have f337 : h333 (432) = .inl (1, 4, .inr (.inl (fun _ => 0))) := f336
  have f338 : h333 (421) = .inl (0, 300, .inl (fun _ => 0)) := (hk335 (421) (by omega)).trans f320
  have f339 : h333 (422) = .inl (0, 240, .inl (fun _ => 0)) := (hk335 (422) (by omega)).trans f321
  have f340 : h333 (423) = .inl (0, 48, .inl (fun _ => 0)) := (hk335 (423) (by omega)).trans f322
  have f341 : h333 (424) = .inl (0, 72, .inl (fun _ => 0)) := (hk335 (424) (by omega)).trans f323
  have f342 : h333 (425) = .inl (1, 160, .inr (.inl (fun _ => 0))) := (hk335 (425) (by omega)).trans f324
  have f343 : h333 (426) = .inl (1, 480, .inr (.inl (fun _ => 0))) := (hk335 (426) (by omega)).trans f325
  have f344 : h333 (427) = .inl (1, 4, .inr (.inl (fun _ => 0))) := (hk335 (427) (by omega)).trans f326
  have f345 : h333 (428) = .inl (1, 4, .inr (.inl (fun _ => 0))) := (hk335 (428) (by omega)).trans f327
  have f346 : h333 (429) = .inl (1, 4, .inr (.inl (fun _ => 0))) := (hk335 (429) (by omega)).trans f328
  have f347 : h333 (430) = .inl (1, 4, .inr (.inl (fun _ => 0))) := (hk335 (430) (by omega)).trans f329
  have f348 : h333 (431) = .inl (1, 4, .inr (.inl (fun _ => 0))) := (hk335 (431) (by omega)).trans f330
  have f349 : h333 (420) = .inr (12, [.int 0, .long 0, .ref 421, .int 0, .int 0, .int 0, .int 0, .int 0, .int 0, .int 0, .int 0, .int 0, .int (-9), .ref 422, .ref 423, .ref 424, .ref 425, .ref 426, .ref 427, .ref 428, .ref 429, .ref 430, .ref 431, .null, .null]) := (hk335 (420) (by omega)).trans f319
  have B350 : BT (2) (420) h333 := BT_kl B331 hk335 (by omega)
  have K351 : KL (420) h h333 := KL_tr (by omega) K332 hk335
  refine k_pc 23 (fs' := [.int 0, .long 0, .ref 421, .int 0, .int 0, .int 0, .int 0, .int 0, .int 0, .int 0, .int 0, .int 0, .int (-9), .ref 422, .ref 423, .ref 424, .ref 425, .ref 426, .ref 427, .ref 428, .ref 429, .ref 430, .ref 431, .ref 432, .null]) rfl dX12_init_101 (by omega) (by omega) hW334 f349 (fp_X12_48 rfl rfl (by omega) _) (Nat.le_of_ble_eq_true rfl) rfl (fun h352 hW353 hk354 f355 => ?_)
  have f356 : h352 (421) = .inl (0, 300, .inl (fun _ => 0)) := (hk354 (421) (by omega)).trans f338
  have f357 : h352 (422) = .inl (0, 240, .inl (fun _ => 0)) := (hk354 (422) (by omega)).trans f339
  have f358 : h352 (423) = .inl (0, 48, .inl (fun _ => 0)) := (hk354 (423) (by omega)).trans f340
  have f359 : h352 (424) = .inl (0, 72, .inl (fun _ => 0)) := (hk354 (424) (by omega)).trans f341
  have f360 : h352 (425) = .inl (1, 160, .inr (.inl (fun _ => 0))) := (hk354 (425) (by omega)).trans f342
  have f361 : h352 (426) = .inl (1, 480, .inr (.inl (fun _ => 0))) := (hk354 (426) (by omega)).trans f343
  have f362 : h352 (427) = .inl (1, 4, .inr (.inl (fun _ => 0))) := (hk354 (427) (by omega)).trans f344
  have f363 : h352 (428) = .inl (1, 4, .inr (.inl (fun _ => 0))) := (hk354 (428) (by omega)).trans f345
  have f364 : h352 (429) = .inl (1, 4, .inr (.inl (fun _ => 0))) := (hk354 (429) (by omega)).trans f346
  have f365 : h352 (430) = .inl (1, 4, .inr (.inl (fun _ => 0))) := (hk354 (430) (by omega)).trans f347
  have f366 : h352 (431) = .inl (1, 4, .inr (.inl (fun _ => 0))) := (hk354 (431) (by omega)).trans f348
  have f367 : h352 (432) = .inl (1, 4, .inr (.inl (fun _ => 0))) := (hk354 (432) (by omega)).trans f337
  have B368 : BT (2) (420) h352 := BT_kn B350 hk354 (by omega)
  have K369 : KL (420) h h352 := KL_kn (by omega) K351 hk354
  refine r_aload_n rfl dX12_init_104 rfl ?_
  refine r_iconst (v := 4) rfl dX12_init_105 (by decide) ?_
  refine r_bud (kc' := 0 + 1) (ks' := 1 + 4) (by omega) (by omega) ?_
  refine k_newa rfl dX12_init_106 hW353 (by decide) (by decide) (by decide) rfl lac_long (fun h370 hW371 hk372 f373 => ?_)
  have f374 : h370 (433) = .inl (1, 4, .inr (.inl (fun _ => 0))) := f373
  have f375 : h370 (421) = .inl (0, 300, .inl (fun _ => 0)) := (hk372 (421) (by omega)).trans f356
  have f376 : h370 (422) = .inl (0, 240, .inl (fun _ => 0)) := (hk372 (422) (by omega)).trans f357
  have f377 : h370 (423) = .inl (0, 48, .inl (fun _ => 0)) := (hk372 (423) (by omega)).trans f358
  have f378 : h370 (424) = .inl (0, 72, .inl (fun _ => 0)) := (hk372 (424) (by omega)).trans f359
  have f379 : h370 (425) = .inl (1, 160, .inr (.inl (fun _ => 0))) := (hk372 (425) (by omega)).trans f360
  have f380 : h370 (426) = .inl (1, 480, .inr (.inl (fun _ => 0))) := (hk372 (426) (by omega)).trans f361
  have f381 : h370 (427) = .inl (1, 4, .inr (.inl (fun _ => 0))) := (hk372 (427) (by omega)).trans f362
  have f382 : h370 (428) = .inl (1, 4, .inr (.inl (fun _ => 0))) := (hk372 (428) (by omega)).trans f363
  have f383 : h370 (429) = .inl (1, 4, .inr (.inl (fun _ => 0))) := (hk372 (429) (by omega)).trans f364
  have f384 : h370 (430) = .inl (1, 4, .inr (.inl (fun _ => 0))) := (hk372 (430) (by omega)).trans f365
  have f385 : h370 (431) = .inl (1, 4, .inr (.inl (fun _ => 0))) := (hk372 (431) (by omega)).trans f366
  have f386 : h370 (432) = .inl (1, 4, .inr (.inl (fun _ => 0))) := (hk372 (432) (by omega)).trans f367
  have f387 : h370 (420) = .inr (12, [.int 0, .long 0, .ref 421, .int 0, .int 0, .int 0, .int 0, .int 0, .int 0, .int 0, .int 0, .int 0, .int (-9), .ref 422, .ref 423, .ref 424, .ref 425, .ref 426, .ref 427, .ref 428, .ref 429, .ref 430, .ref 431, .ref 432, .null]) := (hk372 (420) (by omega)).trans f355
  have B388 : BT (2) (420) h370 := BT_kl B368 hk372 (by omega)
  have K389 : KL (420) h h370 := KL_tr (by omega) K369 hk372
  refine k_pc 24 (fs' := [.int 0, .long 0, .ref 421, .int 0, .int 0, .int 0, .int 0, .int 0, .int 0, .int 0, .int 0, .int 0, .int (-9), .ref 422, .ref 423, .ref 424, .ref 425, .ref 426, .ref 427, .ref 428, .ref 429, .ref 430, .ref 431, .ref 432, .ref 433]) rfl dX12_init_108 (by omega) (by omega) hW371 f387 (fp_X12_51 rfl rfl (by omega) _) (Nat.le_of_ble_eq_true rfl) rfl (fun h390 hW391 hk392 f393 => ?_)
  have f394 : h390 (421) = .inl (0, 300, .inl (fun _ => 0)) := (hk392 (421) (by omega)).trans f375
  have f395 : h390 (422) = .inl (0, 240, .inl (fun _ => 0)) := (hk392 (422) (by omega)).trans f376
  have f396 : h390 (423) = .inl (0, 48, .inl (fun _ => 0)) := (hk392 (423) (by omega)).trans f377
  have f397 : h390 (424) = .inl (0, 72, .inl (fun _ => 0)) := (hk392 (424) (by omega)).trans f378
  have f398 : h390 (425) = .inl (1, 160, .inr (.inl (fun _ => 0))) := (hk392 (425) (by omega)).trans f379
  have f399 : h390 (426) = .inl (1, 480, .inr (.inl (fun _ => 0))) := (hk392 (426) (by omega)).trans f380
  have f400 : h390 (427) = .inl (1, 4, .inr (.inl (fun _ => 0))) := (hk392 (427) (by omega)).trans f381
  have f401 : h390 (428) = .inl (1, 4, .inr (.inl (fun _ => 0))) := (hk392 (428) (by omega)).trans f382
  have f402 : h390 (429) = .inl (1, 4, .inr (.inl (fun _ => 0))) := (hk392 (429) (by omega)).trans f383
  have f403 : h390 (430) = .inl (1, 4, .inr (.inl (fun _ => 0))) := (hk392 (430) (by omega)).trans f384
  have f404 : h390 (431) = .inl (1, 4, .inr (.inl (fun _ => 0))) := (hk392 (431) (by omega)).trans f385
  have f405 : h390 (432) = .inl (1, 4, .inr (.inl (fun _ => 0))) := (hk392 (432) (by omega)).trans f386
  have f406 : h390 (433) = .inl (1, 4, .inr (.inl (fun _ => 0))) := (hk392 (433) (by omega)).trans f374
  have B407 : BT (2) (420) h390 := BT_kn B388 hk392 (by omega)
  have K408 : KL (420) h h390 := KL_kn (by omega) K389 hk392
  refine r_aload_n rfl dX12_init_111 rfl ?_
  have hSH : SH h390 := ⟨hW391, BT_jn B407 (BT_jn (BT_1 f393 ss_12) (BT_jn (BT_jn (BT_jn (BT_jn (BT_jn (BT_jn (BT_jn (BT_jn (BT_jn (BT_jn (BT_jn (BT_jn (BT_1 f394 (sse_rf _)) (BT_1 f395 (sse_rf _))) (BT_1 f396 (sse_rf _))) (BT_1 f397 (sse_rf _))) (BT_1 f398 (sse_rf _))) (BT_1 f399 (sse_rf _))) (BT_1 f400 (sse_rf _))) (BT_1 f401 (sse_rf _))) (BT_1 f402 (sse_rf _))) (BT_1 f403 (sse_rf _))) (BT_1 f404 (sse_rf _))) (BT_1 f405 (sse_rf _))) (BT_1 f406 (sse_rf _))))⟩
  refine cl_X12_54 rfl rfl dX12_init_112 (by decide) (by decide) f393 (Nat.le_of_ble_eq_true rfl) (s_X12_bounds (c := 0) (m := 0) hSH f393 (by decide) (by decide)) ?_
  rintro _ h409 _ ⟨rfl, hS410, hk411, rfl⟩
  exact r_ret dX12_init_115 (rt_v rfl) ⟨rfl, hS410, fun k z => (hk411 k (fun e => by simp at e; omega)).trans (K408 k z), (hk411 420 (by decide)).trans f393, (hk411 421 (by decide)).trans f394, rfl⟩
