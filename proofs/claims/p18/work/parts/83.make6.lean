theorem dX11_init_0 : decode cX11_init 0 = .ok (.aload_n 0, 1) := by decide +kernel
theorem dX11_init_1 : decode cX11_init 1 = .ok (.invokespecial 3, 3) := by decide +kernel
theorem dX11_init_4 : decode cX11_init 4 = .ok (.aload_n 0, 1) := by decide +kernel
theorem dX11_init_5 : decode cX11_init 5 = .ok (.new 9, 3) := by decide +kernel
theorem dX11_init_8 : decode cX11_init 8 = .ok (.dup, 1) := by decide +kernel
theorem dX11_init_9 : decode cX11_init 9 = .ok (.invokespecial 11, 3) := by decide +kernel
theorem dX11_init_12 : decode cX11_init 12 = .ok (.putfield 12, 3) := by decide +kernel
theorem dX11_init_15 : decode cX11_init 15 = .ok (.aload_n 0, 1) := by decide +kernel
theorem dX11_init_16 : decode cX11_init 16 = .ok (.new 16, 3) := by decide +kernel
theorem dX11_init_19 : decode cX11_init 19 = .ok (.dup, 1) := by decide +kernel
theorem dX11_init_20 : decode cX11_init 20 = .ok (.invokespecial 18, 3) := by decide +kernel
theorem dX11_init_23 : decode cX11_init 23 = .ok (.putfield 19, 3) := by decide +kernel
theorem dX11_init_26 : decode cX11_init 26 = .ok (.aload_n 0, 1) := by decide +kernel
theorem dX11_init_27 : decode cX11_init 27 = .ok (.bipush 40, 2) := by decide +kernel
theorem dX11_init_29 : decode cX11_init 29 = .ok (.anewarray 23, 3) := by decide +kernel
theorem dX11_init_32 : decode cX11_init 32 = .ok (.putfield 25, 3) := by decide +kernel
theorem dX11_init_35 : decode cX11_init 35 = .ok (.aload_n 0, 1) := by decide +kernel
theorem dX11_init_36 : decode cX11_init 36 = .ok (.new 29, 3) := by decide +kernel
theorem dX11_init_39 : decode cX11_init 39 = .ok (.dup, 1) := by decide +kernel
theorem dX11_init_40 : decode cX11_init 40 = .ok (.invokespecial 31, 3) := by decide +kernel
theorem dX11_init_43 : decode cX11_init 43 = .ok (.putfield 32, 3) := by decide +kernel
theorem dX11_init_46 : decode cX11_init 46 = .ok (.aload_n 0, 1) := by decide +kernel
theorem dX11_init_47 : decode cX11_init 47 = .ok (.new 36, 3) := by decide +kernel
theorem dX11_init_50 : decode cX11_init 50 = .ok (.dup, 1) := by decide +kernel
theorem dX11_init_51 : decode cX11_init 51 = .ok (.invokespecial 38, 3) := by decide +kernel
theorem dX11_init_54 : decode cX11_init 54 = .ok (.putfield 39, 3) := by decide +kernel
theorem dX11_init_57 : decode cX11_init 57 = .ok (.aload_n 0, 1) := by decide +kernel
theorem dX11_init_58 : decode cX11_init 58 = .ok (.new 43, 3) := by decide +kernel
theorem dX11_init_61 : decode cX11_init 61 = .ok (.dup, 1) := by decide +kernel
theorem dX11_init_62 : decode cX11_init 62 = .ok (.invokespecial 45, 3) := by decide +kernel
theorem dX11_init_65 : decode cX11_init 65 = .ok (.putfield 46, 3) := by decide +kernel
theorem dX11_init_68 : decode cX11_init 68 = .ok (.aload_n 0, 1) := by decide +kernel
theorem dX11_init_69 : decode cX11_init 69 = .ok (.new 50, 3) := by decide +kernel
theorem dX11_init_72 : decode cX11_init 72 = .ok (.dup, 1) := by decide +kernel
theorem dX11_init_73 : decode cX11_init 73 = .ok (.invokespecial 52, 3) := by decide +kernel
theorem dX11_init_76 : decode cX11_init 76 = .ok (.putfield 53, 3) := by decide +kernel
theorem dX11_init_79 : decode cX11_init 79 = .ok (.aload_n 0, 1) := by decide +kernel
theorem dX11_init_80 : decode cX11_init 80 = .ok (.new 57, 3) := by decide +kernel
theorem dX11_init_83 : decode cX11_init 83 = .ok (.dup, 1) := by decide +kernel
theorem dX11_init_84 : decode cX11_init 84 = .ok (.invokespecial 59, 3) := by decide +kernel
theorem dX11_init_87 : decode cX11_init 87 = .ok (.putfield 60, 3) := by decide +kernel
theorem dX11_init_90 : decode cX11_init 90 = .ok (.aload_n 0, 1) := by decide +kernel
theorem dX11_init_91 : decode cX11_init 91 = .ok (.new 64, 3) := by decide +kernel
theorem dX11_init_94 : decode cX11_init 94 = .ok (.dup, 1) := by decide +kernel
theorem dX11_init_95 : decode cX11_init 95 = .ok (.invokespecial 66, 3) := by decide +kernel
theorem dX11_init_98 : decode cX11_init 98 = .ok (.putfield 67, 3) := by decide +kernel
theorem dX11_init_101 : decode cX11_init 101 = .ok (.aload_n 0, 1) := by decide +kernel
theorem dX11_init_102 : decode cX11_init 102 = .ok (.new 70, 3) := by decide +kernel
theorem dX11_init_105 : decode cX11_init 105 = .ok (.dup, 1) := by decide +kernel
theorem dX11_init_106 : decode cX11_init 106 = .ok (.invokespecial 72, 3) := by decide +kernel
theorem dX11_init_109 : decode cX11_init 109 = .ok (.putfield 73, 3) := by decide +kernel
theorem dX11_init_112 : decode cX11_init 112 = .ok (.aload_n 0, 1) := by decide +kernel
theorem dX11_init_113 : decode cX11_init 113 = .ok (.new 76, 3) := by decide +kernel
theorem dX11_init_116 : decode cX11_init 116 = .ok (.dup, 1) := by decide +kernel
theorem dX11_init_117 : decode cX11_init 117 = .ok (.invokespecial 78, 3) := by decide +kernel
theorem dX11_init_120 : decode cX11_init 120 = .ok (.putfield 79, 3) := by decide +kernel
theorem dX11_init_123 : decode cX11_init 123 = .ok (.aload_n 0, 1) := by decide +kernel
theorem dX11_init_124 : decode cX11_init 124 = .ok (.bipush (-9), 2) := by decide +kernel
theorem dX11_init_126 : decode cX11_init 126 = .ok (.putfield 82, 3) := by decide +kernel
theorem dX11_init_129 : decode cX11_init 129 = .ok (.aload_n 0, 1) := by decide +kernel
theorem dX11_init_130 : decode cX11_init 130 = .ok (.bipush (-9), 2) := by decide +kernel
theorem dX11_init_132 : decode cX11_init 132 = .ok (.putfield 86, 3) := by decide +kernel
theorem dX11_init_135 : decode cX11_init 135 = .ok (.iconst 0, 1) := by decide +kernel
theorem dX11_init_136 : decode cX11_init 136 = .ok (.istore_n 1, 1) := by decide +kernel
theorem dX11_init_137 : decode cX11_init 137 = .ok (.iload_n 1, 1) := by decide +kernel
theorem dX11_init_138 : decode cX11_init 138 = .ok (.aload_n 0, 1) := by decide +kernel
theorem dX11_init_139 : decode cX11_init 139 = .ok (.getfield 25, 3) := by decide +kernel
theorem dX11_init_142 : decode cX11_init 142 = .ok (.arraylength, 1) := by decide +kernel
theorem dX11_init_143 : decode cX11_init 143 = .ok (.if_icmp .ge 22, 3) := by decide +kernel
theorem dX11_init_146 : decode cX11_init 146 = .ok (.aload_n 0, 1) := by decide +kernel
theorem dX11_init_147 : decode cX11_init 147 = .ok (.getfield 25, 3) := by decide +kernel
theorem dX11_init_150 : decode cX11_init 150 = .ok (.iload_n 1, 1) := by decide +kernel
theorem dX11_init_151 : decode cX11_init 151 = .ok (.new 23, 3) := by decide +kernel
theorem dX11_init_154 : decode cX11_init 154 = .ok (.dup, 1) := by decide +kernel
theorem dX11_init_155 : decode cX11_init 155 = .ok (.invokespecial 89, 3) := by decide +kernel
theorem dX11_init_158 : decode cX11_init 158 = .ok (.aastore, 1) := by decide +kernel
theorem dX11_init_159 : decode cX11_init 159 = .ok (.iinc 1 1, 3) := by decide +kernel
theorem dX11_init_162 : decode cX11_init 162 = .ok (.goto (-25), 3) := by decide +kernel
theorem dX11_init_165 : decode cX11_init 165 = .ok (.return_, 1) := by decide +kernel
theorem dX12_init_0 : decode cX12_init 0 = .ok (.aload_n 0, 1) := by decide +kernel
theorem dX12_init_1 : decode cX12_init 1 = .ok (.invokespecial 1, 3) := by decide +kernel
theorem dX12_init_4 : decode cX12_init 4 = .ok (.aload_n 0, 1) := by decide +kernel
theorem dX12_init_5 : decode cX12_init 5 = .ok (.sipush 300, 3) := by decide +kernel
theorem dX12_init_8 : decode cX12_init 8 = .ok (.newarray .int, 2) := by decide +kernel
theorem dX12_init_10 : decode cX12_init 10 = .ok (.putfield 7, 3) := by decide +kernel
theorem dX12_init_13 : decode cX12_init 13 = .ok (.aload_n 0, 1) := by decide +kernel
theorem dX12_init_14 : decode cX12_init 14 = .ok (.bipush (-9), 2) := by decide +kernel
theorem dX12_init_16 : decode cX12_init 16 = .ok (.putfield 13, 3) := by decide +kernel
theorem dX12_init_19 : decode cX12_init 19 = .ok (.aload_n 0, 1) := by decide +kernel
theorem dX12_init_20 : decode cX12_init 20 = .ok (.sipush 240, 3) := by decide +kernel
theorem dX12_init_23 : decode cX12_init 23 = .ok (.newarray .int, 2) := by decide +kernel
theorem dX12_init_25 : decode cX12_init 25 = .ok (.putfield 17, 3) := by decide +kernel
theorem dX12_init_28 : decode cX12_init 28 = .ok (.aload_n 0, 1) := by decide +kernel
theorem dX12_init_29 : decode cX12_init 29 = .ok (.bipush 48, 2) := by decide +kernel
theorem dX12_init_31 : decode cX12_init 31 = .ok (.newarray .int, 2) := by decide +kernel
theorem dX12_init_33 : decode cX12_init 33 = .ok (.putfield 20, 3) := by decide +kernel
theorem dX12_init_36 : decode cX12_init 36 = .ok (.aload_n 0, 1) := by decide +kernel
theorem dX12_init_37 : decode cX12_init 37 = .ok (.bipush 72, 2) := by decide +kernel
theorem dX12_init_39 : decode cX12_init 39 = .ok (.newarray .int, 2) := by decide +kernel
theorem dX12_init_41 : decode cX12_init 41 = .ok (.putfield 23, 3) := by decide +kernel
theorem dX12_init_44 : decode cX12_init 44 = .ok (.aload_n 0, 1) := by decide +kernel
theorem dX12_init_45 : decode cX12_init 45 = .ok (.sipush 160, 3) := by decide +kernel
theorem dX12_init_48 : decode cX12_init 48 = .ok (.newarray .long, 2) := by decide +kernel
theorem dX12_init_50 : decode cX12_init 50 = .ok (.putfield 26, 3) := by decide +kernel
theorem dX12_init_53 : decode cX12_init 53 = .ok (.aload_n 0, 1) := by decide +kernel
theorem dX12_init_54 : decode cX12_init 54 = .ok (.sipush 480, 3) := by decide +kernel
theorem dX12_init_57 : decode cX12_init 57 = .ok (.newarray .long, 2) := by decide +kernel
theorem dX12_init_59 : decode cX12_init 59 = .ok (.putfield 30, 3) := by decide +kernel
theorem dX12_init_62 : decode cX12_init 62 = .ok (.aload_n 0, 1) := by decide +kernel
theorem dX12_init_63 : decode cX12_init 63 = .ok (.iconst 4, 1) := by decide +kernel
theorem dX12_init_64 : decode cX12_init 64 = .ok (.newarray .long, 2) := by decide +kernel
theorem dX12_init_66 : decode cX12_init 66 = .ok (.putfield 33, 3) := by decide +kernel
theorem dX12_init_69 : decode cX12_init 69 = .ok (.aload_n 0, 1) := by decide +kernel
theorem dX12_init_70 : decode cX12_init 70 = .ok (.iconst 4, 1) := by decide +kernel
theorem dX12_init_71 : decode cX12_init 71 = .ok (.newarray .long, 2) := by decide +kernel
theorem dX12_init_73 : decode cX12_init 73 = .ok (.putfield 36, 3) := by decide +kernel
theorem dX12_init_76 : decode cX12_init 76 = .ok (.aload_n 0, 1) := by decide +kernel
theorem dX12_init_77 : decode cX12_init 77 = .ok (.iconst 4, 1) := by decide +kernel
theorem dX12_init_78 : decode cX12_init 78 = .ok (.newarray .long, 2) := by decide +kernel
theorem dX12_init_80 : decode cX12_init 80 = .ok (.putfield 39, 3) := by decide +kernel
theorem dX12_init_83 : decode cX12_init 83 = .ok (.aload_n 0, 1) := by decide +kernel
theorem dX12_init_84 : decode cX12_init 84 = .ok (.iconst 4, 1) := by decide +kernel
theorem dX12_init_85 : decode cX12_init 85 = .ok (.newarray .long, 2) := by decide +kernel
theorem dX12_init_87 : decode cX12_init 87 = .ok (.putfield 42, 3) := by decide +kernel
theorem dX12_init_90 : decode cX12_init 90 = .ok (.aload_n 0, 1) := by decide +kernel
theorem dX12_init_91 : decode cX12_init 91 = .ok (.iconst 4, 1) := by decide +kernel
theorem dX12_init_92 : decode cX12_init 92 = .ok (.newarray .long, 2) := by decide +kernel
theorem dX12_init_94 : decode cX12_init 94 = .ok (.putfield 45, 3) := by decide +kernel
theorem dX12_init_97 : decode cX12_init 97 = .ok (.aload_n 0, 1) := by decide +kernel
theorem dX12_init_98 : decode cX12_init 98 = .ok (.iconst 4, 1) := by decide +kernel
theorem dX12_init_99 : decode cX12_init 99 = .ok (.newarray .long, 2) := by decide +kernel
theorem dX12_init_101 : decode cX12_init 101 = .ok (.putfield 48, 3) := by decide +kernel
theorem dX12_init_104 : decode cX12_init 104 = .ok (.aload_n 0, 1) := by decide +kernel
theorem dX12_init_105 : decode cX12_init 105 = .ok (.iconst 4, 1) := by decide +kernel
theorem dX12_init_106 : decode cX12_init 106 = .ok (.newarray .long, 2) := by decide +kernel
theorem dX12_init_108 : decode cX12_init 108 = .ok (.putfield 51, 3) := by decide +kernel
theorem dX12_init_111 : decode cX12_init 111 = .ok (.aload_n 0, 1) := by decide +kernel
theorem dX12_init_112 : decode cX12_init 112 = .ok (.invokevirtual 54, 3) := by decide +kernel
theorem dX12_init_115 : decode cX12_init 115 = .ok (.return_, 1) := by decide +kernel
set_option maxRecDepth 20000 in
set_option maxHeartbeats 1000000 in
theorem s_X7_init6 {xs : Nat → Int32} {L d : Nat} {h : ev_H}  (hW : WTH h) (f0 : h 13 = .inr (7, [.null, .null, .null, .null, .null, .int 0, .int 0, .int 0, .int 0])) : EV xs L (d + 2) (10) (31) M_X7_init (14) h 0 [some (.ref 13)] [] (fun sz' h' r => sz' = 24 ∧ WTH h' ∧ KL 13 h h' ∧ BT 13 24 h' ∧ h' 13 = c13 0 0 0 0 ∧ h' 15 = .inl (1, 4, .inr (.inl (ws4 (fun _ => 0) (-1) (-1) (-1) (-1)))) ∧ h' 17 = .inl (1, 4, .inr (.inl (ws4 (fun _ => 0) (-1) (-1) (-1) (-1)))) ∧ h' 19 = .inl (1, 4, .inr (.inl (ws4 (fun _ => 0) (-1) (-1) (-1) (-1)))) ∧ h' 21 = .inl (1, 4, .inr (.inl (fun _ => 0))) ∧ r = []) := by
  refine r_aload_n rfl dX7_init_0 rfl ?_
  refine r_oinit rfl dX7_init_1 (Nat.succ_pos _) (Nat.le_of_ble_eq_true rfl) lo_X7 lk_oi lk_oc ?_
  refine r_aload_n rfl dX7_init_4 rfl ?_
  refine r_bud (kc' := 9 + 1) (ks' := 30 + 1) (by omega) (by omega) ?_
  refine k_new 10 (fs := [.null]) rfl dX7_init_5 hW rfl rfl lk_X7_9 lt_X10 lz_X10 rfl (fun h51 hW52 hk53 f54 => ?_)
  have f55 : h51 (13) = .inr (7, [.null, .null, .null, .null, .null, .int 0, .int 0, .int 0, .int 0]) := (hk53 (13) (by omega)).trans f0
  have K56 : KL (13) h h51 := KL_tr (by omega) (KL_rf (13) h) hk53
  refine r_dup rfl dX7_init_8 rfl ?_
  refine r_bud (kc' := 1 + (8)) (ks' := 5 + (25)) (by omega) (by omega) ?_
  refine cl_X7_11 rfl rfl dX7_init_9 (Nat.le_of_ble_eq_true rfl) (s_X10_init hW52 (by omega) f54) ?_
  rintro _ h57 _ ⟨rfl, hW58, hk59, f60, f61, rfl⟩
  have f62 : h57 (13) = .inr (7, [.null, .null, .null, .null, .null, .int 0, .int 0, .int 0, .int 0]) := (hk59 (13) (by omega)).trans f55
  have K63 : KL (13) h h57 := KL_tr (by omega) K56 hk59
  refine k_pc 0 (fs' := [.ref 14, .null, .null, .null, .null, .int 0, .int 0, .int 0, .int 0]) rfl dX7_init_12 (by omega) (by omega) hW58 f62 (fp_X7_12 rfl rfl (by omega) _) (Nat.le_of_ble_eq_true rfl) rfl (fun h64 hW65 hk66 f67 => ?_)
  have f68 : h64 (14) = .inr (10, [.ref 15]) := (hk66 (14) (by omega)).trans f60
  have f69 : h64 (15) = .inl (1, 4, .inr (.inl (fun _ => 0))) := (hk66 (15) (by omega)).trans f61
  have K70 : KL (13) h h64 := KL_kn (by omega) K63 hk66
  refine r_aload_n rfl dX7_init_15 rfl ?_
  refine r_bud (kc' := 7 + 1) (ks' := 24 + 1) (by omega) (by omega) ?_
  refine k_new 10 (fs := [.null]) rfl dX7_init_16 hW65 rfl rfl lk_X7_9 lt_X10 lz_X10 rfl (fun h71 hW72 hk73 f74 => ?_)
  have f75 : h71 (14) = .inr (10, [.ref 15]) := (hk73 (14) (by omega)).trans f68
  have f76 : h71 (15) = .inl (1, 4, .inr (.inl (fun _ => 0))) := (hk73 (15) (by omega)).trans f69
  have f77 : h71 (13) = .inr (7, [.ref 14, .null, .null, .null, .null, .int 0, .int 0, .int 0, .int 0]) := (hk73 (13) (by omega)).trans f67
  have K78 : KL (13) h h71 := KL_tr (by omega) K70 hk73
  refine r_dup rfl dX7_init_19 rfl ?_
  refine r_bud (kc' := 1 + (6)) (ks' := 5 + (19)) (by omega) (by omega) ?_
  refine cl_X7_11 rfl rfl dX7_init_20 (Nat.le_of_ble_eq_true rfl) (s_X10_init hW72 (by omega) f74) ?_
  rintro _ h79 _ ⟨rfl, hW80, hk81, f82, f83, rfl⟩
  have f84 : h79 (14) = .inr (10, [.ref 15]) := (hk81 (14) (by omega)).trans f75
  have f85 : h79 (15) = .inl (1, 4, .inr (.inl (fun _ => 0))) := (hk81 (15) (by omega)).trans f76
  have f86 : h79 (13) = .inr (7, [.ref 14, .null, .null, .null, .null, .int 0, .int 0, .int 0, .int 0]) := (hk81 (13) (by omega)).trans f77
  have K87 : KL (13) h h79 := KL_tr (by omega) K78 hk81
  refine k_pc 1 (fs' := [.ref 14, .ref 16, .null, .null, .null, .int 0, .int 0, .int 0, .int 0]) rfl dX7_init_23 (by omega) (by omega) hW80 f86 (fp_X7_18 rfl rfl (by omega) _) (Nat.le_of_ble_eq_true rfl) rfl (fun h88 hW89 hk90 f91 => ?_)
  have f92 : h88 (14) = .inr (10, [.ref 15]) := (hk90 (14) (by omega)).trans f84
  have f93 : h88 (15) = .inl (1, 4, .inr (.inl (fun _ => 0))) := (hk90 (15) (by omega)).trans f85
  have f94 : h88 (16) = .inr (10, [.ref 17]) := (hk90 (16) (by omega)).trans f82
  have f95 : h88 (17) = .inl (1, 4, .inr (.inl (fun _ => 0))) := (hk90 (17) (by omega)).trans f83
  have K96 : KL (13) h h88 := KL_kn (by omega) K87 hk90
  refine r_aload_n rfl dX7_init_26 rfl ?_
  refine r_bud (kc' := 5 + 1) (ks' := 18 + 1) (by omega) (by omega) ?_
  refine k_new 10 (fs := [.null]) rfl dX7_init_27 hW89 rfl rfl lk_X7_9 lt_X10 lz_X10 rfl (fun h97 hW98 hk99 f100 => ?_)
  have f101 : h97 (14) = .inr (10, [.ref 15]) := (hk99 (14) (by omega)).trans f92
  have f102 : h97 (15) = .inl (1, 4, .inr (.inl (fun _ => 0))) := (hk99 (15) (by omega)).trans f93
  have f103 : h97 (16) = .inr (10, [.ref 17]) := (hk99 (16) (by omega)).trans f94
  have f104 : h97 (17) = .inl (1, 4, .inr (.inl (fun _ => 0))) := (hk99 (17) (by omega)).trans f95
  have f105 : h97 (13) = .inr (7, [.ref 14, .ref 16, .null, .null, .null, .int 0, .int 0, .int 0, .int 0]) := (hk99 (13) (by omega)).trans f91
  have K106 : KL (13) h h97 := KL_tr (by omega) K96 hk99
  refine r_dup rfl dX7_init_30 rfl ?_
  refine r_bud (kc' := 1 + (4)) (ks' := 5 + (13)) (by omega) (by omega) ?_
  refine cl_X7_11 rfl rfl dX7_init_31 (Nat.le_of_ble_eq_true rfl) (s_X10_init hW98 (by omega) f100) ?_
  rintro _ h107 _ ⟨rfl, hW108, hk109, f110, f111, rfl⟩
  have f112 : h107 (14) = .inr (10, [.ref 15]) := (hk109 (14) (by omega)).trans f101
  have f113 : h107 (15) = .inl (1, 4, .inr (.inl (fun _ => 0))) := (hk109 (15) (by omega)).trans f102
  have f114 : h107 (16) = .inr (10, [.ref 17]) := (hk109 (16) (by omega)).trans f103
  have f115 : h107 (17) = .inl (1, 4, .inr (.inl (fun _ => 0))) := (hk109 (17) (by omega)).trans f104
  have f116 : h107 (13) = .inr (7, [.ref 14, .ref 16, .null, .null, .null, .int 0, .int 0, .int 0, .int 0]) := (hk109 (13) (by omega)).trans f105
  have K117 : KL (13) h h107 := KL_tr (by omega) K106 hk109
  refine k_pc 2 (fs' := [.ref 14, .ref 16, .ref 18, .null, .null, .int 0, .int 0, .int 0, .int 0]) rfl dX7_init_34 (by omega) (by omega) hW108 f116 (fp_X7_21 rfl rfl (by omega) _) (Nat.le_of_ble_eq_true rfl) rfl (fun h118 hW119 hk120 f121 => ?_)
  have f122 : h118 (14) = .inr (10, [.ref 15]) := (hk120 (14) (by omega)).trans f112
  have f123 : h118 (15) = .inl (1, 4, .inr (.inl (fun _ => 0))) := (hk120 (15) (by omega)).trans f113
  have f124 : h118 (16) = .inr (10, [.ref 17]) := (hk120 (16) (by omega)).trans f114
  have f125 : h118 (17) = .inl (1, 4, .inr (.inl (fun _ => 0))) := (hk120 (17) (by omega)).trans f115
  have f126 : h118 (18) = .inr (10, [.ref 19]) := (hk120 (18) (by omega)).trans f110
  have f127 : h118 (19) = .inl (1, 4, .inr (.inl (fun _ => 0))) := (hk120 (19) (by omega)).trans f111
  have K128 : KL (13) h h118 := KL_kn (by omega) K117 hk120
  refine r_aload_n rfl dX7_init_37 rfl ?_
  refine r_bud (kc' := 3 + 1) (ks' := 12 + 1) (by omega) (by omega) ?_
  refine k_new 10 (fs := [.null]) rfl dX7_init_38 hW119 rfl rfl lk_X7_9 lt_X10 lz_X10 rfl (fun h129 hW130 hk131 f132 => ?_)
  have f133 : h129 (14) = .inr (10, [.ref 15]) := (hk131 (14) (by omega)).trans f122
  have f134 : h129 (15) = .inl (1, 4, .inr (.inl (fun _ => 0))) := (hk131 (15) (by omega)).trans f123
  have f135 : h129 (16) = .inr (10, [.ref 17]) := (hk131 (16) (by omega)).trans f124
  have f136 : h129 (17) = .inl (1, 4, .inr (.inl (fun _ => 0))) := (hk131 (17) (by omega)).trans f125
  have f137 : h129 (18) = .inr (10, [.ref 19]) := (hk131 (18) (by omega)).trans f126
  have f138 : h129 (19) = .inl (1, 4, .inr (.inl (fun _ => 0))) := (hk131 (19) (by omega)).trans f127
  have f139 : h129 (13) = .inr (7, [.ref 14, .ref 16, .ref 18, .null, .null, .int 0, .int 0, .int 0, .int 0]) := (hk131 (13) (by omega)).trans f121
  have K140 : KL (13) h h129 := KL_tr (by omega) K128 hk131
  refine r_dup rfl dX7_init_41 rfl ?_
  refine r_bud (kc' := 1 + (2)) (ks' := 5 + (7)) (by omega) (by omega) ?_
  refine cl_X7_11 rfl rfl dX7_init_42 (Nat.le_of_ble_eq_true rfl) (s_X10_init hW130 (by omega) f132) ?_
  rintro _ h141 _ ⟨rfl, hW142, hk143, f144, f145, rfl⟩
  have f146 : h141 (14) = .inr (10, [.ref 15]) := (hk143 (14) (by omega)).trans f133
  have f147 : h141 (15) = .inl (1, 4, .inr (.inl (fun _ => 0))) := (hk143 (15) (by omega)).trans f134
  have f148 : h141 (16) = .inr (10, [.ref 17]) := (hk143 (16) (by omega)).trans f135
  have f149 : h141 (17) = .inl (1, 4, .inr (.inl (fun _ => 0))) := (hk143 (17) (by omega)).trans f136
  have f150 : h141 (18) = .inr (10, [.ref 19]) := (hk143 (18) (by omega)).trans f137
  have f151 : h141 (19) = .inl (1, 4, .inr (.inl (fun _ => 0))) := (hk143 (19) (by omega)).trans f138
  have f152 : h141 (13) = .inr (7, [.ref 14, .ref 16, .ref 18, .null, .null, .int 0, .int 0, .int 0, .int 0]) := (hk143 (13) (by omega)).trans f139
  have K153 : KL (13) h h141 := KL_tr (by omega) K140 hk143
  refine k_pc 3 (fs' := [.ref 14, .ref 16, .ref 18, .ref 20, .null, .int 0, .int 0, .int 0, .int 0]) rfl dX7_init_45 (by omega) (by omega) hW142 f152 (fp_X7_24 rfl rfl (by omega) _) (Nat.le_of_ble_eq_true rfl) rfl (fun h154 hW155 hk156 f157 => ?_)
  have f158 : h154 (14) = .inr (10, [.ref 15]) := (hk156 (14) (by omega)).trans f146
  have f159 : h154 (15) = .inl (1, 4, .inr (.inl (fun _ => 0))) := (hk156 (15) (by omega)).trans f147
  have f160 : h154 (16) = .inr (10, [.ref 17]) := (hk156 (16) (by omega)).trans f148
  have f161 : h154 (17) = .inl (1, 4, .inr (.inl (fun _ => 0))) := (hk156 (17) (by omega)).trans f149
  have f162 : h154 (18) = .inr (10, [.ref 19]) := (hk156 (18) (by omega)).trans f150
  have f163 : h154 (19) = .inl (1, 4, .inr (.inl (fun _ => 0))) := (hk156 (19) (by omega)).trans f151
  have f164 : h154 (20) = .inr (10, [.ref 21]) := (hk156 (20) (by omega)).trans f144
  have f165 : h154 (21) = .inl (1, 4, .inr (.inl (fun _ => 0))) := (hk156 (21) (by omega)).trans f145
  have K166 : KL (13) h h154 := KL_kn (by omega) K153 hk156
  refine r_aload_n rfl dX7_init_48 rfl ?_
  refine r_bud (kc' := 1 + 1) (ks' := 6 + 1) (by omega) (by omega) ?_
  refine k_new 10 (fs := [.null]) rfl dX7_init_49 hW155 rfl rfl lk_X7_9 lt_X10 lz_X10 rfl (fun h167 hW168 hk169 f170 => ?_)
  have f171 : h167 (14) = .inr (10, [.ref 15]) := (hk169 (14) (by omega)).trans f158
  have f172 : h167 (15) = .inl (1, 4, .inr (.inl (fun _ => 0))) := (hk169 (15) (by omega)).trans f159
  have f173 : h167 (16) = .inr (10, [.ref 17]) := (hk169 (16) (by omega)).trans f160
  have f174 : h167 (17) = .inl (1, 4, .inr (.inl (fun _ => 0))) := (hk169 (17) (by omega)).trans f161
  have f175 : h167 (18) = .inr (10, [.ref 19]) := (hk169 (18) (by omega)).trans f162
  have f176 : h167 (19) = .inl (1, 4, .inr (.inl (fun _ => 0))) := (hk169 (19) (by omega)).trans f163
  have f177 : h167 (20) = .inr (10, [.ref 21]) := (hk169 (20) (by omega)).trans f164
  have f178 : h167 (21) = .inl (1, 4, .inr (.inl (fun _ => 0))) := (hk169 (21) (by omega)).trans f165
  have f179 : h167 (13) = .inr (7, [.ref 14, .ref 16, .ref 18, .ref 20, .null, .int 0, .int 0, .int 0, .int 0]) := (hk169 (13) (by omega)).trans f157
  have K180 : KL (13) h h167 := KL_tr (by omega) K166 hk169
  refine r_dup rfl dX7_init_52 rfl ?_
  refine r_bud (kc' := 1 + (0)) (ks' := 5 + (1)) (by omega) (by omega) ?_
  refine cl_X7_11 rfl rfl dX7_init_53 (Nat.le_of_ble_eq_true rfl) (s_X10_init hW168 (by omega) f170) ?_
  rintro _ h181 _ ⟨rfl, hW182, hk183, f184, f185, rfl⟩
  have f186 : h181 (14) = .inr (10, [.ref 15]) := (hk183 (14) (by omega)).trans f171
  have f187 : h181 (15) = .inl (1, 4, .inr (.inl (fun _ => 0))) := (hk183 (15) (by omega)).trans f172
  have f188 : h181 (16) = .inr (10, [.ref 17]) := (hk183 (16) (by omega)).trans f173
  have f189 : h181 (17) = .inl (1, 4, .inr (.inl (fun _ => 0))) := (hk183 (17) (by omega)).trans f174
  have f190 : h181 (18) = .inr (10, [.ref 19]) := (hk183 (18) (by omega)).trans f175
  have f191 : h181 (19) = .inl (1, 4, .inr (.inl (fun _ => 0))) := (hk183 (19) (by omega)).trans f176
  have f192 : h181 (20) = .inr (10, [.ref 21]) := (hk183 (20) (by omega)).trans f177
  have f193 : h181 (21) = .inl (1, 4, .inr (.inl (fun _ => 0))) := (hk183 (21) (by omega)).trans f178
  have f194 : h181 (13) = .inr (7, [.ref 14, .ref 16, .ref 18, .ref 20, .null, .int 0, .int 0, .int 0, .int 0]) := (hk183 (13) (by omega)).trans f179
  have K195 : KL (13) h h181 := KL_tr (by omega) K180 hk183
  refine k_pc 4 (fs' := [.ref 14, .ref 16, .ref 18, .ref 20, .ref 22, .int 0, .int 0, .int 0, .int 0]) rfl dX7_init_56 (by omega) (by omega) hW182 f194 (fp_X7_27 rfl rfl (by omega) _) (Nat.le_of_ble_eq_true rfl) rfl (fun h196 hW197 hk198 f199 => ?_)
  have f200 : h196 (14) = .inr (10, [.ref 15]) := (hk198 (14) (by omega)).trans f186
  have f201 : h196 (15) = .inl (1, 4, .inr (.inl (fun _ => 0))) := (hk198 (15) (by omega)).trans f187
  have f202 : h196 (16) = .inr (10, [.ref 17]) := (hk198 (16) (by omega)).trans f188
  have f203 : h196 (17) = .inl (1, 4, .inr (.inl (fun _ => 0))) := (hk198 (17) (by omega)).trans f189
  have f204 : h196 (18) = .inr (10, [.ref 19]) := (hk198 (18) (by omega)).trans f190
  have f205 : h196 (19) = .inl (1, 4, .inr (.inl (fun _ => 0))) := (hk198 (19) (by omega)).trans f191
  have f206 : h196 (20) = .inr (10, [.ref 21]) := (hk198 (20) (by omega)).trans f192
  have f207 : h196 (21) = .inl (1, 4, .inr (.inl (fun _ => 0))) := (hk198 (21) (by omega)).trans f193
  have f208 : h196 (22) = .inr (10, [.ref 23]) := (hk198 (22) (by omega)).trans f184
  have f209 : h196 (23) = .inl (1, 4, .inr (.inl (fun _ => 0))) := (hk198 (23) (by omega)).trans f185
  have K210 : KL (13) h h196 := KL_kn (by omega) K195 hk198
  refine r_aload_n rfl dX7_init_59 rfl ?_
  refine r_getv 0 rfl dX7_init_60 (by omega) f199 fl_X7_12 rfl ?_
  refine cl_X7_30 rfl rfl dX7_init_63 (by omega) (by omega) f200 (Nat.le_of_ble_eq_true rfl) (s_X10_fill (isWS_of (by omega) (by omega) f200 f201)) ?_
  rintro _ h211 _ ⟨rfl, eh212, rfl⟩
  have hW213 : WTH h211 := by rw [eh212]; exact up_wt hW197 trivial
  have hk214 : KN (15) h196 h211 := fun k hk => by rw [eh212]; exact va_up_ne _ _ hk
  have f215 : h211 (15) = .inl (1, 4, .inr (.inl (ws4 (fun _ => 0) (-1) (-1) (-1) (-1)))) := by rw [eh212]; exact va_up_self _ _ _
  have f216 : h211 (14) = .inr (10, [.ref 15]) := (hk214 (14) (by omega)).trans f200
  have f217 : h211 (16) = .inr (10, [.ref 17]) := (hk214 (16) (by omega)).trans f202
  have f218 : h211 (17) = .inl (1, 4, .inr (.inl (fun _ => 0))) := (hk214 (17) (by omega)).trans f203
  have f219 : h211 (18) = .inr (10, [.ref 19]) := (hk214 (18) (by omega)).trans f204
  have f220 : h211 (19) = .inl (1, 4, .inr (.inl (fun _ => 0))) := (hk214 (19) (by omega)).trans f205
  have f221 : h211 (20) = .inr (10, [.ref 21]) := (hk214 (20) (by omega)).trans f206
  have f222 : h211 (21) = .inl (1, 4, .inr (.inl (fun _ => 0))) := (hk214 (21) (by omega)).trans f207
  have f223 : h211 (22) = .inr (10, [.ref 23]) := (hk214 (22) (by omega)).trans f208
  have f224 : h211 (23) = .inl (1, 4, .inr (.inl (fun _ => 0))) := (hk214 (23) (by omega)).trans f209
  have f225 : h211 (13) = .inr (7, [.ref 14, .ref 16, .ref 18, .ref 20, .ref 22, .int 0, .int 0, .int 0, .int 0]) := (hk214 (13) (by omega)).trans f199
  have K226 : KL (13) h h211 := KL_kn (by omega) K210 hk214
  refine r_aload_n rfl dX7_init_66 rfl ?_
  refine r_getv 1 rfl dX7_init_67 (by omega) f225 fl_X7_18 rfl ?_
  refine cl_X7_30 rfl rfl dX7_init_70 (by omega) (by omega) f217 (Nat.le_of_ble_eq_true rfl) (s_X10_fill (isWS_of (by omega) (by omega) f217 f218)) ?_
  rintro _ h227 _ ⟨rfl, eh228, rfl⟩
  have hW229 : WTH h227 := by rw [eh228]; exact up_wt hW213 trivial
  have hk230 : KN (17) h211 h227 := fun k hk => by rw [eh228]; exact va_up_ne _ _ hk
  have f231 : h227 (17) = .inl (1, 4, .inr (.inl (ws4 (fun _ => 0) (-1) (-1) (-1) (-1)))) := by rw [eh228]; exact va_up_self _ _ _
  have f232 : h227 (14) = .inr (10, [.ref 15]) := (hk230 (14) (by omega)).trans f216
  have f233 : h227 (16) = .inr (10, [.ref 17]) := (hk230 (16) (by omega)).trans f217
  have f234 : h227 (18) = .inr (10, [.ref 19]) := (hk230 (18) (by omega)).trans f219
  have f235 : h227 (19) = .inl (1, 4, .inr (.inl (fun _ => 0))) := (hk230 (19) (by omega)).trans f220
  have f236 : h227 (20) = .inr (10, [.ref 21]) := (hk230 (20) (by omega)).trans f221
  have f237 : h227 (21) = .inl (1, 4, .inr (.inl (fun _ => 0))) := (hk230 (21) (by omega)).trans f222
  have f238 : h227 (22) = .inr (10, [.ref 23]) := (hk230 (22) (by omega)).trans f223
  have f239 : h227 (23) = .inl (1, 4, .inr (.inl (fun _ => 0))) := (hk230 (23) (by omega)).trans f224
  have f240 : h227 (13) = .inr (7, [.ref 14, .ref 16, .ref 18, .ref 20, .ref 22, .int 0, .int 0, .int 0, .int 0]) := (hk230 (13) (by omega)).trans f225
  have f241 : h227 (15) = .inl (1, 4, .inr (.inl (ws4 (fun _ => 0) (-1) (-1) (-1) (-1)))) := (hk230 (15) (by omega)).trans f215
  have K242 : KL (13) h h227 := KL_kn (by omega) K226 hk230
  refine r_aload_n rfl dX7_init_73 rfl ?_
  refine r_getv 2 rfl dX7_init_74 (by omega) f240 fl_X7_21 rfl ?_
  refine cl_X7_30 rfl rfl dX7_init_77 (by omega) (by omega) f234 (Nat.le_of_ble_eq_true rfl) (s_X10_fill (isWS_of (by omega) (by omega) f234 f235)) ?_
  rintro _ h243 _ ⟨rfl, eh244, rfl⟩
  have hW245 : WTH h243 := by rw [eh244]; exact up_wt hW229 trivial
  have hk246 : KN (19) h227 h243 := fun k hk => by rw [eh244]; exact va_up_ne _ _ hk
  have f247 : h243 (19) = .inl (1, 4, .inr (.inl (ws4 (fun _ => 0) (-1) (-1) (-1) (-1)))) := by rw [eh244]; exact va_up_self _ _ _
  have f248 : h243 (14) = .inr (10, [.ref 15]) := (hk246 (14) (by omega)).trans f232
  have f249 : h243 (16) = .inr (10, [.ref 17]) := (hk246 (16) (by omega)).trans f233
  have f250 : h243 (18) = .inr (10, [.ref 19]) := (hk246 (18) (by omega)).trans f234
  have f251 : h243 (20) = .inr (10, [.ref 21]) := (hk246 (20) (by omega)).trans f236
  have f252 : h243 (21) = .inl (1, 4, .inr (.inl (fun _ => 0))) := (hk246 (21) (by omega)).trans f237
  have f253 : h243 (22) = .inr (10, [.ref 23]) := (hk246 (22) (by omega)).trans f238
  have f254 : h243 (23) = .inl (1, 4, .inr (.inl (fun _ => 0))) := (hk246 (23) (by omega)).trans f239
  have f255 : h243 (13) = .inr (7, [.ref 14, .ref 16, .ref 18, .ref 20, .ref 22, .int 0, .int 0, .int 0, .int 0]) := (hk246 (13) (by omega)).trans f240
  have f256 : h243 (15) = .inl (1, 4, .inr (.inl (ws4 (fun _ => 0) (-1) (-1) (-1) (-1)))) := (hk246 (15) (by omega)).trans f241
  have f257 : h243 (17) = .inl (1, 4, .inr (.inl (ws4 (fun _ => 0) (-1) (-1) (-1) (-1)))) := (hk246 (17) (by omega)).trans f231
  have K258 : KL (13) h h243 := KL_kn (by omega) K242 hk246
  exact r_ret dX7_init_80 (rt_v rfl) ⟨rfl, hW245, K258, (BT_jn (BT_jn (BT_jn (BT_jn (BT_jn (BT_1 f255 (sse_rf _)) (BT_ws wsAt_14 f248 f256)) (BT_ws wsAt_16 f249 f257)) (BT_ws wsAt_18 f250 f247)) (BT_ws wsAt_20 f251 f252)) (BT_ws wsAt_22 f253 f254)), f255, f256, f257, f247, f252, rfl⟩
theorem ss_11 {a0 a1 a2 a3 a4 a5 a6 a7 a8 a9 a10 : Nat} {x11 y11 x12 y12 x13 y13 x14 y14 x15 y15 : Value} : sse (.inr (11, [.ref a0, .ref a1, .ref a2, .ref a3, .ref a4, .ref a5, .ref a6, .ref a7, .ref a8, .ref a9, .ref a10, x11, x12, x13, x14, x15])) (.inr (11, [.ref a0, .ref a1, .ref a2, .ref a3, .ref a4, .ref a5, .ref a6, .ref a7, .ref a8, .ref a9, .ref a10, y11, y12, y13, y14, y15])) := ⟨_, rfl, fun q hq k hk => by
  obtain rfl : q = (RX11, TX11, 16) := Option.some.inj (hq.symm.trans rfl)
  match k, hk with
  | 0, _ => rfl
  | 1, _ => rfl
  | 2, _ => rfl
  | 3, _ => rfl
  | 4, _ => rfl
  | 5, _ => rfl
  | 6, _ => rfl
  | 7, _ => rfl
  | 8, _ => rfl
  | 9, _ => rfl
  | 10, _ => rfl
  | 11, hk => cases hk
  | 12, hk => cases hk
  | 13, hk => cases hk
  | 14, hk => cases hk
  | 15, hk => cases hk
  | k + 16, _ => rfl⟩
theorem ss_12 {a2 a13 a14 a15 a16 a17 a18 a19 a20 a21 a22 a23 a24 : Nat} {x0 y0 x1 y1 x3 y3 x4 y4 x5 y5 x6 y6 x7 y7 x8 y8 x9 y9 x10 y10 x11 y11 x12 y12 : Value} : sse (.inr (12, [x0, x1, .ref a2, x3, x4, x5, x6, x7, x8, x9, x10, x11, x12, .ref a13, .ref a14, .ref a15, .ref a16, .ref a17, .ref a18, .ref a19, .ref a20, .ref a21, .ref a22, .ref a23, .ref a24])) (.inr (12, [y0, y1, .ref a2, y3, y4, y5, y6, y7, y8, y9, y10, y11, y12, .ref a13, .ref a14, .ref a15, .ref a16, .ref a17, .ref a18, .ref a19, .ref a20, .ref a21, .ref a22, .ref a23, .ref a24])) := ⟨_, rfl, fun q hq k hk => by
  obtain rfl : q = (RX12, TX12, 25) := Option.some.inj (hq.symm.trans rfl)
  match k, hk with
  | 0, hk => cases hk
  | 1, hk => cases hk
  | 2, _ => rfl
  | 3, hk => cases hk
  | 4, hk => cases hk
  | 5, hk => cases hk
  | 6, hk => cases hk
  | 7, hk => cases hk
  | 8, hk => cases hk
  | 9, hk => cases hk
  | 10, hk => cases hk
  | 11, hk => cases hk
  | 12, hk => cases hk
  | 13, _ => rfl
  | 14, _ => rfl
  | 15, _ => rfl
  | 16, _ => rfl
  | 17, _ => rfl
  | 18, _ => rfl
  | 19, _ => rfl
  | 20, _ => rfl
  | 21, _ => rfl
  | 22, _ => rfl
  | 23, _ => rfl
  | 24, _ => rfl
  | k + 25, _ => rfl⟩
set_option maxRecDepth 20000 in
set_option maxHeartbeats 1000000 in
theorem s_X11i_z {xs : Nat → Int32} {L d : Nat} {h : ev_H} {h0 : ev_H} {k : Nat} (hW : WTH h) (hK : KL 2 h0 h) (f2 : h 2 = c2 0 0 0 (-9) (-9)) (f3 : h 3 = c3 0 0 0 0 0) (f4 : h 4 = c4 (fun _ => 0)) (f12 : h 12 = .inl (4, 40, .inr (.inr (.inr (.inr (fun j => if j < k then some (100 + 8 * j) else none)))))) (f24 : h 24 = c24 0 0 0 0) (f95 : h 95 = .inr (9, [.long 0])) (f13 : h 13 = c13 0 0 0 0) (f15 : h 15 = .inl (1, 4, .inr (.inl (ws4 (fun _ => 0) (-1) (-1) (-1) (-1))))) (f17 : h 17 = .inl (1, 4, .inr (.inl (ws4 (fun _ => 0) (-1) (-1) (-1) (-1))))) (f19 : h 19 = .inl (1, 4, .inr (.inl (ws4 (fun _ => 0) (-1) (-1) (-1) (-1))))) (f21 : h 21 = .inl (1, 4, .inr (.inl (fun _ => 0)))) (f94 : h 94 = .inl (1, 4, .inr (.inl (fun _ => 0)))) (hB1 : BT 5 12 h) (hB2 : BT 13 (100 + 8 * k) h) (hk : k = 40) : EV xs L (d + 4) (0) (1) M_X11_init (100 + 8 * k) h 137 [some (.ref 2), some (.int (nI k))] [] (fun sz' h' r => sz' = 420 ∧ WTH h' ∧ KL 2 h0 h' ∧ BT 2 420 h' ∧ h' 2 = c2 0 0 0 (-9) (-9) ∧ h' 3 = c3 0 0 0 0 0 ∧ h' 4 = c4 (fun _ => 0) ∧ h' 24 = c24 0 0 0 0 ∧ h' 95 = .inr (9, [.long 0]) ∧ h' 13 = c13 0 0 0 0 ∧ h' 15 = .inl (1, 4, .inr (.inl (ws4 (fun _ => 0) (-1) (-1) (-1) (-1)))) ∧ h' 17 = .inl (1, 4, .inr (.inl (ws4 (fun _ => 0) (-1) (-1) (-1) (-1)))) ∧ h' 19 = .inl (1, 4, .inr (.inl (ws4 (fun _ => 0) (-1) (-1) (-1) (-1)))) ∧ h' 21 = .inl (1, 4, .inr (.inl (fun _ => 0))) ∧ h' 94 = .inl (1, 4, .inr (.inl (fun _ => 0))) ∧ r = []) := by
  refine r_iload_n rfl dX11_init_137 rfl ?_
  refine r_aload_n rfl dX11_init_138 rfl ?_
  refine r_getv 2 rfl dX11_init_139 (by omega) f2 fl_X11_25 rfl ?_
  refine r_alen (v := 40) rfl dX11_init_142 (by omega) (by omega) f12 (by decide) rfl ?_
  refine r_icmp_ge (tgt := 165) rfl rfl dX11_init_143 (fun _ => ?_) (fun zc => absurd (show (40 : Int32) ≤ nI k from nI_le (a := 40) (b := k) (by omega) (by omega)) zc)
  obtain rfl : k = 40 := hk
  exact r_ret dX11_init_165 (rt_v rfl) ⟨rfl, hW, hK, (BT_jn (BT_jn (BT_jn (BT_jn (BT_jn (BT_1 f2 ss_11) (BT_1 f3 (sse_rf _))) (BT_1 f4 (sse_rf _))) hB1) (BT_1 f12 (sse_rf _))) hB2), f2, f3, f4, f24, f95, f13, f15, f17, f19, f21, f94, rfl⟩
set_option maxRecDepth 20000 in
set_option maxHeartbeats 1000000 in
theorem s_X11i_s {xs : Nat → Int32} {L d : Nat} {h : ev_H} {h0 : ev_H} {k n : Nat} (hW : WTH h) (hK : KL 2 h0 h) (f2 : h 2 = c2 0 0 0 (-9) (-9)) (f3 : h 3 = c3 0 0 0 0 0) (f4 : h 4 = c4 (fun _ => 0)) (f12 : h 12 = .inl (4, 40, .inr (.inr (.inr (.inr (fun j => if j < k then some (100 + 8 * j) else none)))))) (f24 : h 24 = c24 0 0 0 0) (f95 : h 95 = .inr (9, [.long 0])) (f13 : h 13 = c13 0 0 0 0) (f15 : h 15 = .inl (1, 4, .inr (.inl (ws4 (fun _ => 0) (-1) (-1) (-1) (-1))))) (f17 : h 17 = .inl (1, 4, .inr (.inl (ws4 (fun _ => 0) (-1) (-1) (-1) (-1))))) (f19 : h 19 = .inl (1, 4, .inr (.inl (ws4 (fun _ => 0) (-1) (-1) (-1) (-1))))) (f21 : h 21 = .inl (1, 4, .inr (.inl (fun _ => 0)))) (f94 : h 94 = .inl (1, 4, .inr (.inl (fun _ => 0)))) (hB1 : BT 5 12 h) (hB2 : BT 13 (100 + 8 * k) h) (hk : k < 40) (ih : ∀ h' : ev_H, WTH h' → KL 2 h0 h' → h' 2 = c2 0 0 0 (-9) (-9) → h' 3 = c3 0 0 0 0 0 → h' 4 = c4 (fun _ => 0) → h' 12 = .inl (4, 40, .inr (.inr (.inr (.inr (fun j => if j < k + 1 then some (100 + 8 * j) else none))))) → h' 24 = c24 0 0 0 0 → h' 95 = .inr (9, [.long 0]) → h' 13 = c13 0 0 0 0 → h' 15 = .inl (1, 4, .inr (.inl (ws4 (fun _ => 0) (-1) (-1) (-1) (-1)))) → h' 17 = .inl (1, 4, .inr (.inl (ws4 (fun _ => 0) (-1) (-1) (-1) (-1)))) → h' 19 = .inl (1, 4, .inr (.inl (ws4 (fun _ => 0) (-1) (-1) (-1) (-1)))) → h' 21 = .inl (1, 4, .inr (.inl (fun _ => 0))) → h' 94 = .inl (1, 4, .inr (.inl (fun _ => 0))) → BT 5 12 h' → BT 13 (100 + 8 * (k + 1)) h' → EV xs L (d + 4) (8 * n) (29 * n + 1) M_X11_init (100 + 8 * (k + 1)) h' 137 [some (.ref 2), some (.int (nI (k + 1)))] [] (fun sz' h' r => sz' = 420 ∧ WTH h' ∧ KL 2 h0 h' ∧ BT 2 420 h' ∧ h' 2 = c2 0 0 0 (-9) (-9) ∧ h' 3 = c3 0 0 0 0 0 ∧ h' 4 = c4 (fun _ => 0) ∧ h' 24 = c24 0 0 0 0 ∧ h' 95 = .inr (9, [.long 0]) ∧ h' 13 = c13 0 0 0 0 ∧ h' 15 = .inl (1, 4, .inr (.inl (ws4 (fun _ => 0) (-1) (-1) (-1) (-1)))) ∧ h' 17 = .inl (1, 4, .inr (.inl (ws4 (fun _ => 0) (-1) (-1) (-1) (-1)))) ∧ h' 19 = .inl (1, 4, .inr (.inl (ws4 (fun _ => 0) (-1) (-1) (-1) (-1)))) ∧ h' 21 = .inl (1, 4, .inr (.inl (fun _ => 0))) ∧ h' 94 = .inl (1, 4, .inr (.inl (fun _ => 0))) ∧ r = [])) : EV xs L (d + 4) (8 * n + 8) ((29 * n + 1) + 29) M_X11_init (100 + 8 * k) h 137 [some (.ref 2), some (.int (nI k))] [] (fun sz' h' r => sz' = 420 ∧ WTH h' ∧ KL 2 h0 h' ∧ BT 2 420 h' ∧ h' 2 = c2 0 0 0 (-9) (-9) ∧ h' 3 = c3 0 0 0 0 0 ∧ h' 4 = c4 (fun _ => 0) ∧ h' 24 = c24 0 0 0 0 ∧ h' 95 = .inr (9, [.long 0]) ∧ h' 13 = c13 0 0 0 0 ∧ h' 15 = .inl (1, 4, .inr (.inl (ws4 (fun _ => 0) (-1) (-1) (-1) (-1)))) ∧ h' 17 = .inl (1, 4, .inr (.inl (ws4 (fun _ => 0) (-1) (-1) (-1) (-1)))) ∧ h' 19 = .inl (1, 4, .inr (.inl (ws4 (fun _ => 0) (-1) (-1) (-1) (-1)))) ∧ h' 21 = .inl (1, 4, .inr (.inl (fun _ => 0))) ∧ h' 94 = .inl (1, 4, .inr (.inl (fun _ => 0))) ∧ r = []) := by
  refine r_iload_n rfl dX11_init_137 rfl ?_
  refine r_aload_n rfl dX11_init_138 rfl ?_
  refine r_getv 2 rfl dX11_init_139 (by omega) f2 fl_X11_25 rfl ?_
  refine r_alen (v := 40) rfl dX11_init_142 (by omega) (by omega) f12 (by decide) rfl ?_
  refine r_icmp_ge (tgt := 165) rfl rfl dX11_init_143 (fun zc => absurd zc (show ¬ (40 : Int32) ≤ nI k from nI_ge (a := k) (b := 40) (by omega) (by decide))) (fun _ => ?_)
  refine r_aload_n rfl dX11_init_146 rfl ?_
  refine r_getv 2 rfl dX11_init_147 (by omega) f2 fl_X11_25 rfl ?_
  refine r_iload_n rfl dX11_init_150 rfl ?_
  refine r_bud (kc' := 8 * n + 7 + 1) (ks' := (29 * n + 1) + 22 + 7) (by omega) (by omega) ?_
  refine k_new 3 (fs := [.null, .int 0, .int 0, .int 0, .int 0, .int 0, .int 0]) rfl dX11_init_151 hW rfl rfl lk_X11_23 lt_X3 lz_X3 rfl (fun h51 hW52 hk53 f54 => ?_)
  have f55 : h51 (2) = .inr (11, [.ref 3, .ref 5, .ref 12, .ref 13, .ref 24, .ref 93, .ref 95, .ref 96, .ref 97, .ref 98, .ref 99, .int 0, .int 0, .int 0, .int (-9), .int (-9)]) := (hk53 (2) (by omega)).trans f2
  have f56 : h51 (3) = c3 0 0 0 0 0 := (hk53 (3) (by omega)).trans f3
  have f57 : h51 (4) = c4 (fun _ => 0) := (hk53 (4) (by omega)).trans f4
  have f58 : h51 (12) = .inl (4, 40, .inr (.inr (.inr (.inr (fun j => if j < k then some (100 + 8 * j) else none))))) := (hk53 (12) (by omega)).trans f12
  have f59 : h51 (24) = c24 0 0 0 0 := (hk53 (24) (by omega)).trans f24
  have f60 : h51 (95) = .inr (9, [.long 0]) := (hk53 (95) (by omega)).trans f95
  have f61 : h51 (13) = c13 0 0 0 0 := (hk53 (13) (by omega)).trans f13
  have f62 : h51 (15) = .inl (1, 4, .inr (.inl (ws4 (fun _ => 0) (-1) (-1) (-1) (-1)))) := (hk53 (15) (by omega)).trans f15
  have f63 : h51 (17) = .inl (1, 4, .inr (.inl (ws4 (fun _ => 0) (-1) (-1) (-1) (-1)))) := (hk53 (17) (by omega)).trans f17
  have f64 : h51 (19) = .inl (1, 4, .inr (.inl (ws4 (fun _ => 0) (-1) (-1) (-1) (-1)))) := (hk53 (19) (by omega)).trans f19
  have f65 : h51 (21) = .inl (1, 4, .inr (.inl (fun _ => 0))) := (hk53 (21) (by omega)).trans f21
  have f66 : h51 (94) = .inl (1, 4, .inr (.inl (fun _ => 0))) := (hk53 (94) (by omega)).trans f94
  have B67 : BT (5) (12) h51 := BT_kl hB1 hk53 (by omega)
  have B68 : BT (13) (100 + 8 * k) h51 := BT_kl hB2 hk53 (by omega)
  have K69 : KL (2) h0 h51 := KL_tr (by omega) hK hk53
  refine r_dup rfl dX11_init_154 rfl ?_
  refine r_bud (kc' := 7 + (8 * n + 0)) (ks' := 22 + ((29 * n + 1) + 0)) (by omega) (by omega) ?_
  refine cl_X11_89 rfl rfl dX11_init_155 (Nat.le_of_ble_eq_true rfl) (s_X3_init (i := k) hW52 f54 (by omega) rfl) ?_
  rintro _ h70 _ ⟨rfl, hW71, hk72, ⟨fs73, f74⟩, B75, rfl⟩
  have f76 : h70 (2) = .inr (11, [.ref 3, .ref 5, .ref 12, .ref 13, .ref 24, .ref 93, .ref 95, .ref 96, .ref 97, .ref 98, .ref 99, .int 0, .int 0, .int 0, .int (-9), .int (-9)]) := (hk72 (2) (by omega)).trans f55
  have f77 : h70 (3) = c3 0 0 0 0 0 := (hk72 (3) (by omega)).trans f56
  have f78 : h70 (4) = c4 (fun _ => 0) := (hk72 (4) (by omega)).trans f57
  have f79 : h70 (12) = .inl (4, 40, .inr (.inr (.inr (.inr (fun j => if j < k then some (100 + 8 * j) else none))))) := (hk72 (12) (by omega)).trans f58
  have f80 : h70 (24) = c24 0 0 0 0 := (hk72 (24) (by omega)).trans f59
  have f81 : h70 (95) = .inr (9, [.long 0]) := (hk72 (95) (by omega)).trans f60
  have f82 : h70 (13) = c13 0 0 0 0 := (hk72 (13) (by omega)).trans f61
  have f83 : h70 (15) = .inl (1, 4, .inr (.inl (ws4 (fun _ => 0) (-1) (-1) (-1) (-1)))) := (hk72 (15) (by omega)).trans f62
  have f84 : h70 (17) = .inl (1, 4, .inr (.inl (ws4 (fun _ => 0) (-1) (-1) (-1) (-1)))) := (hk72 (17) (by omega)).trans f63
  have f85 : h70 (19) = .inl (1, 4, .inr (.inl (ws4 (fun _ => 0) (-1) (-1) (-1) (-1)))) := (hk72 (19) (by omega)).trans f64
  have f86 : h70 (21) = .inl (1, 4, .inr (.inl (fun _ => 0))) := (hk72 (21) (by omega)).trans f65
  have f87 : h70 (94) = .inl (1, 4, .inr (.inl (fun _ => 0))) := (hk72 (94) (by omega)).trans f66
  have B88 : BT (5) (12) h70 := BT_kl B67 hk72 (by omega)
  have B89 : BT (13) (100 + 8 * k) h70 := BT_kl B68 hk72 (by omega)
  have K90 : KL (2) h0 h70 := KL_tr (by omega) K69 hk72
  refine k_aast (jn := k) rfl dX11_init_158 (by omega) (by omega) hW71 f79 f74 rfl (Or.inr ⟨rfl, rfl⟩) (by omega) (vp_in_nI (n := k) (by omega) (by decide)) (nI_clamp (n := k) (by omega)) (fun h91 hW92 hk93 f94 => ?_)
  have f95 : h91 (12) = .inl (4, 40, .inr (.inr (.inr (.inr (fun j => if j < k + 1 then some (100 + 8 * j) else none))))) := by rw [f94, fl_up 100 8 k 40 (by omega)]
  have f96 : h91 (2) = .inr (11, [.ref 3, .ref 5, .ref 12, .ref 13, .ref 24, .ref 93, .ref 95, .ref 96, .ref 97, .ref 98, .ref 99, .int 0, .int 0, .int 0, .int (-9), .int (-9)]) := (hk93 (2) (by omega)).trans f76
  have f97 : h91 (3) = c3 0 0 0 0 0 := (hk93 (3) (by omega)).trans f77
  have f98 : h91 (4) = c4 (fun _ => 0) := (hk93 (4) (by omega)).trans f78
  have f99 : h91 (24) = c24 0 0 0 0 := (hk93 (24) (by omega)).trans f80
  have f100 : h91 (95) = .inr (9, [.long 0]) := (hk93 (95) (by omega)).trans f81
  have f101 : h91 (13) = c13 0 0 0 0 := (hk93 (13) (by omega)).trans f82
  have f102 : h91 (15) = .inl (1, 4, .inr (.inl (ws4 (fun _ => 0) (-1) (-1) (-1) (-1)))) := (hk93 (15) (by omega)).trans f83
  have f103 : h91 (17) = .inl (1, 4, .inr (.inl (ws4 (fun _ => 0) (-1) (-1) (-1) (-1)))) := (hk93 (17) (by omega)).trans f84
  have f104 : h91 (19) = .inl (1, 4, .inr (.inl (ws4 (fun _ => 0) (-1) (-1) (-1) (-1)))) := (hk93 (19) (by omega)).trans f85
  have f105 : h91 (21) = .inl (1, 4, .inr (.inl (fun _ => 0))) := (hk93 (21) (by omega)).trans f86
  have f106 : h91 (94) = .inl (1, 4, .inr (.inl (fun _ => 0))) := (hk93 (94) (by omega)).trans f87
  have f107 : h91 (100 + 8 * k) = .inr (3, fs73) := (hk93 (100 + 8 * k) (by omega)).trans f74
  have B108 : BT (5) (12) h91 := BT_kn B88 hk93 (by omega)
  have B109 : BT (13) (100 + 8 * k) h91 := BT_kn B89 hk93 (by omega)
  have B110 : BT (100 + 8 * k) (100 + 8 * k + 8) h91 := BT_kn B75 hk93 (by omega)
  have K111 : KL (2) h0 h91 := KL_kn (by omega) K90 hk93
  refine r_iinc (y := nI (k + 1)) (ls' := [some (.ref 2), some (.int (nI (k + 1)))]) rfl dX11_init_159 rfl (nI_1 k) (Nat.le_of_ble_eq_true rfl) rfl ?_
  refine r_goto (pc' := 137) rfl dX11_init_162 ?_
  refine r_bud (kc' := 8 * n) (ks' := 29 * n + 1) (by omega) (by omega) ?_
  exact ih h91 hW92 K111 f96 f97 f98 f95 f99 f100 f101 f102 f103 f104 f105 f106 B108 (BT_jn B109 B110)
theorem s_X11i {xs : Nat → Int32} {L d : Nat} {h0 : ev_H} : ∀ (n k : Nat) (h : ev_H), k + n = 40 → WTH h → KL 2 h0 h → h 2 = c2 0 0 0 (-9) (-9) → h 3 = c3 0 0 0 0 0 → h 4 = c4 (fun _ => 0) → h 12 = .inl (4, 40, .inr (.inr (.inr (.inr (fun j => if j < k then some (100 + 8 * j) else none))))) → h 24 = c24 0 0 0 0 → h 95 = .inr (9, [.long 0]) → h 13 = c13 0 0 0 0 → h 15 = .inl (1, 4, .inr (.inl (ws4 (fun _ => 0) (-1) (-1) (-1) (-1)))) → h 17 = .inl (1, 4, .inr (.inl (ws4 (fun _ => 0) (-1) (-1) (-1) (-1)))) → h 19 = .inl (1, 4, .inr (.inl (ws4 (fun _ => 0) (-1) (-1) (-1) (-1)))) → h 21 = .inl (1, 4, .inr (.inl (fun _ => 0))) → h 94 = .inl (1, 4, .inr (.inl (fun _ => 0))) → BT 5 12 h → BT 13 (100 + 8 * k) h → EV xs L (d + 4) (8 * n) (29 * n + 1) M_X11_init (100 + 8 * k) h 137 [some (.ref 2), some (.int (nI k))] [] (fun sz' h' r => sz' = 420 ∧ WTH h' ∧ KL 2 h0 h' ∧ BT 2 420 h' ∧ h' 2 = c2 0 0 0 (-9) (-9) ∧ h' 3 = c3 0 0 0 0 0 ∧ h' 4 = c4 (fun _ => 0) ∧ h' 24 = c24 0 0 0 0 ∧ h' 95 = .inr (9, [.long 0]) ∧ h' 13 = c13 0 0 0 0 ∧ h' 15 = .inl (1, 4, .inr (.inl (ws4 (fun _ => 0) (-1) (-1) (-1) (-1)))) ∧ h' 17 = .inl (1, 4, .inr (.inl (ws4 (fun _ => 0) (-1) (-1) (-1) (-1)))) ∧ h' 19 = .inl (1, 4, .inr (.inl (ws4 (fun _ => 0) (-1) (-1) (-1) (-1)))) ∧ h' 21 = .inl (1, 4, .inr (.inl (fun _ => 0))) ∧ h' 94 = .inl (1, 4, .inr (.inl (fun _ => 0))) ∧ r = []) := by
  intro n
  induction n with
  | zero => intro k h hk hW hK f2 f3 f4 f12 f24 f95 f13 f15 f17 f19 f21 f94 hB1 hB2; exact s_X11i_z hW hK f2 f3 f4 f12 f24 f95 f13 f15 f17 f19 f21 f94 hB1 hB2 (by omega)
  | succ n ih => intro k h hk hW hK f2 f3 f4 f12 f24 f95 f13 f15 f17 f19 f21 f94 hB1 hB2; exact r_bud (by omega) (by omega) (s_X11i_s (n := n) hW hK f2 f3 f4 f12 f24 f95 f13 f15 f17 f19 f21 f94 hB1 hB2 (by omega) (fun h' q0 q1 q2 q3 q4 q5 q6 q7 q8 q9 q10 q11 q12 q13 q14 q15 => ih (k + 1) h' (by omega) q0 q1 q2 q3 q4 q5 q6 q7 q8 q9 q10 q11 q12 q13 q14 q15))
set_option maxRecDepth 20000 in
set_option maxHeartbeats 1000000 in
theorem s_X11_init {xs : Nat → Int32} {L d : Nat} {h : ev_H}  (hW : WTH h) (f0 : h 2 = .inr (11, [.null, .null, .null, .null, .null, .null, .null, .null, .null, .null, .null, .int 0, .int 0, .int 0, .int 0, .int 0])) : EV xs L (d + 4) (417) (1924) M_X11_init (3) h 0 [some (.ref 2), none] [] (fun sz' h' r => sz' = 420 ∧ WTH h' ∧ KL 2 h h' ∧ BT 2 420 h' ∧ h' 2 = c2 0 0 0 (-9) (-9) ∧ h' 3 = c3 0 0 0 0 0 ∧ h' 4 = c4 (fun _ => 0) ∧ h' 24 = c24 0 0 0 0 ∧ h' 95 = .inr (9, [.long 0]) ∧ h' 13 = c13 0 0 0 0 ∧ h' 15 = .inl (1, 4, .inr (.inl (ws4 (fun _ => 0) (-1) (-1) (-1) (-1)))) ∧ h' 17 = .inl (1, 4, .inr (.inl (ws4 (fun _ => 0) (-1) (-1) (-1) (-1)))) ∧ h' 19 = .inl (1, 4, .inr (.inl (ws4 (fun _ => 0) (-1) (-1) (-1) (-1)))) ∧ h' 21 = .inl (1, 4, .inr (.inl (fun _ => 0))) ∧ h' 94 = .inl (1, 4, .inr (.inl (fun _ => 0))) ∧ r = []) := by
  refine r_aload_n rfl dX11_init_0 rfl ?_
  refine r_oinit rfl dX11_init_1 (Nat.succ_pos _) (Nat.le_of_ble_eq_true rfl) lo_X11 lk_oi lk_oc ?_
  refine r_aload_n rfl dX11_init_4 rfl ?_
  refine r_bud (kc' := 416 + 1) (ks' := 1918 + 6) (by omega) (by omega) ?_
  refine k_new 8 (fs := [.null, .int 0, .int 0, .int 0, .int 0, .int 0]) rfl dX11_init_5 hW rfl rfl lk_X11_9 lt_X8 lz_X8 rfl (fun h51 hW52 hk53 f54 => ?_)
  have f55 : h51 (2) = .inr (11, [.null, .null, .null, .null, .null, .null, .null, .null, .null, .null, .null, .int 0, .int 0, .int 0, .int 0, .int 0]) := (hk53 (2) (by omega)).trans f0
  have K56 : KL (2) h h51 := KL_tr (by omega) (KL_rf (2) h) hk53
  refine r_dup rfl dX11_init_8 rfl ?_
  refine r_bud (kc' := 1 + (415)) (ks' := 301 + (1617)) (by omega) (by omega) ?_
  refine cl_X11_11 rfl rfl dX11_init_9 (Nat.le_of_ble_eq_true rfl) (s_X8_init hW52 f54) ?_
  rintro _ h57 _ ⟨rfl, hW58, hk59, f61, f62, rfl⟩
  have f63 : h57 (2) = .inr (11, [.null, .null, .null, .null, .null, .null, .null, .null, .null, .null, .null, .int 0, .int 0, .int 0, .int 0, .int 0]) := (hk59 (2) (by omega)).trans f55
  have K64 : KL (2) h h57 := KL_tr (by omega) K56 hk59
  refine k_pc 0 (fs' := [.ref 3, .null, .null, .null, .null, .null, .null, .null, .null, .null, .null, .int 0, .int 0, .int 0, .int 0, .int 0]) rfl dX11_init_12 (by omega) (by omega) hW58 f63 (fp_X11_12 rfl rfl (by omega) _) (Nat.le_of_ble_eq_true rfl) rfl (fun h65 hW66 hk67 f68 => ?_)
  have f69 : h65 (3) = .inr (8, [.ref 4, .int 0, .int 0, .int 0, .int 0, .int 0]) := (hk67 (3) (by omega)).trans f61
  have f70 : h65 (4) = c4 (fun _ => 0) := (hk67 (4) (by omega)).trans f62
  have K71 : KL (2) h h65 := KL_kn (by omega) K64 hk67
  refine r_aload_n rfl dX11_init_15 rfl ?_
  refine r_bud (kc' := 414 + 1) (ks' := 1607 + 10) (by omega) (by omega) ?_
  refine k_new 4 (fs := [.null, .null, .null, .int 0, .int 0, .int 0, .null, .null, .null, .int 0]) rfl dX11_init_16 hW66 rfl rfl lk_X11_16 lt_X4 lz_X4 rfl (fun h72 hW73 hk74 f75 => ?_)
  have f76 : h72 (3) = .inr (8, [.ref 4, .int 0, .int 0, .int 0, .int 0, .int 0]) := (hk74 (3) (by omega)).trans f69
  have f77 : h72 (4) = c4 (fun _ => 0) := (hk74 (4) (by omega)).trans f70
  have f78 : h72 (2) = .inr (11, [.ref 3, .null, .null, .null, .null, .null, .null, .null, .null, .null, .null, .int 0, .int 0, .int 0, .int 0, .int 0]) := (hk74 (2) (by omega)).trans f68
  have K79 : KL (2) h h72 := KL_tr (by omega) K71 hk74
  refine r_dup rfl dX11_init_19 rfl ?_
  refine r_bud (kc' := 6 + (408)) (ks' := 121 + (1486)) (by omega) (by omega) ?_
  refine cl_X11_18 rfl rfl dX11_init_20 (Nat.le_of_ble_eq_true rfl) (s_X4_init hW73 f75) ?_
  rintro _ h80 _ ⟨rfl, hW81, hk82, B83, rfl⟩
  have f84 : h80 (3) = .inr (8, [.ref 4, .int 0, .int 0, .int 0, .int 0, .int 0]) := (hk82 (3) (by omega)).trans f76
  have f85 : h80 (4) = c4 (fun _ => 0) := (hk82 (4) (by omega)).trans f77
  have f86 : h80 (2) = .inr (11, [.ref 3, .null, .null, .null, .null, .null, .null, .null, .null, .null, .null, .int 0, .int 0, .int 0, .int 0, .int 0]) := (hk82 (2) (by omega)).trans f78
  have K87 : KL (2) h h80 := KL_tr (by omega) K79 hk82
  refine k_pc 1 (fs' := [.ref 3, .ref 5, .null, .null, .null, .null, .null, .null, .null, .null, .null, .int 0, .int 0, .int 0, .int 0, .int 0]) rfl dX11_init_23 (by omega) (by omega) hW81 f86 (fp_X11_19 rfl rfl (by omega) _) (Nat.le_of_ble_eq_true rfl) rfl (fun h88 hW89 hk90 f91 => ?_)
  have f92 : h88 (3) = .inr (8, [.ref 4, .int 0, .int 0, .int 0, .int 0, .int 0]) := (hk90 (3) (by omega)).trans f84
  have f93 : h88 (4) = c4 (fun _ => 0) := (hk90 (4) (by omega)).trans f85
  have B94 : BT (5) (12) h88 := BT_kn B83 hk90 (by omega)
  have K95 : KL (2) h h88 := KL_kn (by omega) K87 hk90
  refine r_aload_n rfl dX11_init_26 rfl ?_
  refine r_bipush (v := 40) rfl dX11_init_27 (by decide) ?_
  refine r_bud (kc' := 407 + 1) (ks' := 1446 + 40) (by omega) (by omega) ?_
  refine k_anew (t := 4) rfl dX11_init_29 hW89 (by decide) (by decide) (by decide) (Or.inr ⟨rfl, rfl⟩) lk_X11_23 lao_X3 (fun h96 hW97 hk98 f99 => ?_)
  have f100 : h96 (3) = .inr (8, [.ref 4, .int 0, .int 0, .int 0, .int 0, .int 0]) := (hk98 (3) (by omega)).trans f92
  have f101 : h96 (4) = c4 (fun _ => 0) := (hk98 (4) (by omega)).trans f93
  have f102 : h96 (2) = .inr (11, [.ref 3, .ref 5, .null, .null, .null, .null, .null, .null, .null, .null, .null, .int 0, .int 0, .int 0, .int 0, .int 0]) := (hk98 (2) (by omega)).trans f91
  have B103 : BT (5) (12) h96 := BT_kl B94 hk98 (by omega)
  have K104 : KL (2) h h96 := KL_tr (by omega) K95 hk98
  refine k_pc 2 (fs' := [.ref 3, .ref 5, .ref 12, .null, .null, .null, .null, .null, .null, .null, .null, .int 0, .int 0, .int 0, .int 0, .int 0]) rfl dX11_init_32 (by omega) (by omega) hW97 f102 (fp_X11_25 rfl rfl (by omega) _) (Nat.le_of_ble_eq_true rfl) rfl (fun h105 hW106 hk107 f108 => ?_)
  have f109 : h105 (3) = .inr (8, [.ref 4, .int 0, .int 0, .int 0, .int 0, .int 0]) := (hk107 (3) (by omega)).trans f100
  have f110 : h105 (4) = c4 (fun _ => 0) := (hk107 (4) (by omega)).trans f101
  have f111 : h105 (12) = .inl (4, 40, .inr (.inr (.inr (.inr (fun _ => none))))) := (hk107 (12) (by omega)).trans f99
  have B112 : BT (5) (12) h105 := BT_kn B103 hk107 (by omega)
  have K113 : KL (2) h h105 := KL_kn (by omega) K104 hk107
  refine r_aload_n rfl dX11_init_35 rfl ?_
  refine r_bud (kc' := 406 + 1) (ks' := 1437 + 9) (by omega) (by omega) ?_
  refine k_new 7 (fs := [.null, .null, .null, .null, .null, .int 0, .int 0, .int 0, .int 0]) rfl dX11_init_36 hW106 rfl rfl lk_X11_29 lt_X7 lz_X7 rfl (fun h114 hW115 hk116 f117 => ?_)
  have f118 : h114 (3) = .inr (8, [.ref 4, .int 0, .int 0, .int 0, .int 0, .int 0]) := (hk116 (3) (by omega)).trans f109
  have f119 : h114 (4) = c4 (fun _ => 0) := (hk116 (4) (by omega)).trans f110
  have f120 : h114 (12) = .inl (4, 40, .inr (.inr (.inr (.inr (fun _ => none))))) := (hk116 (12) (by omega)).trans f111
  have f121 : h114 (2) = .inr (11, [.ref 3, .ref 5, .ref 12, .null, .null, .null, .null, .null, .null, .null, .null, .int 0, .int 0, .int 0, .int 0, .int 0]) := (hk116 (2) (by omega)).trans f108
  have B122 : BT (5) (12) h114 := BT_kl B112 hk116 (by omega)
  have K123 : KL (2) h h114 := KL_tr (by omega) K113 hk116
  refine r_dup rfl dX11_init_39 rfl ?_
  refine r_bud (kc' := 10 + (396)) (ks' := 31 + (1406)) (by omega) (by omega) ?_
  refine cl_X11_31 rfl rfl dX11_init_40 (Nat.le_of_ble_eq_true rfl) (s_X7_init6 hW115 f117) ?_
  rintro _ h124 _ ⟨rfl, hW125, hk126, B127, f128, f129, f130, f131, f132, rfl⟩
  have f133 : h124 (3) = .inr (8, [.ref 4, .int 0, .int 0, .int 0, .int 0, .int 0]) := (hk126 (3) (by omega)).trans f118
  have f134 : h124 (4) = c4 (fun _ => 0) := (hk126 (4) (by omega)).trans f119
  have f135 : h124 (12) = .inl (4, 40, .inr (.inr (.inr (.inr (fun _ => none))))) := (hk126 (12) (by omega)).trans f120
  have f136 : h124 (2) = .inr (11, [.ref 3, .ref 5, .ref 12, .null, .null, .null, .null, .null, .null, .null, .null, .int 0, .int 0, .int 0, .int 0, .int 0]) := (hk126 (2) (by omega)).trans f121
  have B137 : BT (5) (12) h124 := BT_kl B122 hk126 (by omega)
  have K138 : KL (2) h h124 := KL_tr (by omega) K123 hk126
  refine k_pc 3 (fs' := [.ref 3, .ref 5, .ref 12, .ref 13, .null, .null, .null, .null, .null, .null, .null, .int 0, .int 0, .int 0, .int 0, .int 0]) rfl dX11_init_43 (by omega) (by omega) hW125 f136 (fp_X11_32 rfl rfl (by omega) _) (Nat.le_of_ble_eq_true rfl) rfl (fun h139 hW140 hk141 f142 => ?_)
  have f143 : h139 (3) = .inr (8, [.ref 4, .int 0, .int 0, .int 0, .int 0, .int 0]) := (hk141 (3) (by omega)).trans f133
  have f144 : h139 (4) = c4 (fun _ => 0) := (hk141 (4) (by omega)).trans f134
  have f145 : h139 (12) = .inl (4, 40, .inr (.inr (.inr (.inr (fun _ => none))))) := (hk141 (12) (by omega)).trans f135
  have f146 : h139 (13) = c13 0 0 0 0 := (hk141 (13) (by omega)).trans f128
  have f147 : h139 (15) = .inl (1, 4, .inr (.inl (ws4 (fun _ => 0) (-1) (-1) (-1) (-1)))) := (hk141 (15) (by omega)).trans f129
  have f148 : h139 (17) = .inl (1, 4, .inr (.inl (ws4 (fun _ => 0) (-1) (-1) (-1) (-1)))) := (hk141 (17) (by omega)).trans f130
  have f149 : h139 (19) = .inl (1, 4, .inr (.inl (ws4 (fun _ => 0) (-1) (-1) (-1) (-1)))) := (hk141 (19) (by omega)).trans f131
  have f150 : h139 (21) = .inl (1, 4, .inr (.inl (fun _ => 0))) := (hk141 (21) (by omega)).trans f132
  have B151 : BT (5) (12) h139 := BT_kn B137 hk141 (by omega)
  have B152 : BT (13) (24) h139 := BT_kn B127 hk141 (by omega)
  have K153 : KL (2) h h139 := KL_kn (by omega) K138 hk141
  refine r_aload_n rfl dX11_init_46 rfl ?_
  refine r_bud (kc' := 395 + 1) (ks' := 1400 + 6) (by omega) (by omega) ?_
  refine k_new 0 (fs := [.null, .null, .int 0, .int 0, .int 0, .int 0]) rfl dX11_init_47 hW140 rfl rfl lk_X11_36 lt_X0 lz_X0 rfl (fun h154 hW155 hk156 f157 => ?_)
  have f158 : h154 (3) = .inr (8, [.ref 4, .int 0, .int 0, .int 0, .int 0, .int 0]) := (hk156 (3) (by omega)).trans f143
  have f159 : h154 (4) = c4 (fun _ => 0) := (hk156 (4) (by omega)).trans f144
  have f160 : h154 (12) = .inl (4, 40, .inr (.inr (.inr (.inr (fun _ => none))))) := (hk156 (12) (by omega)).trans f145
  have f161 : h154 (13) = c13 0 0 0 0 := (hk156 (13) (by omega)).trans f146
  have f162 : h154 (15) = .inl (1, 4, .inr (.inl (ws4 (fun _ => 0) (-1) (-1) (-1) (-1)))) := (hk156 (15) (by omega)).trans f147
  have f163 : h154 (17) = .inl (1, 4, .inr (.inl (ws4 (fun _ => 0) (-1) (-1) (-1) (-1)))) := (hk156 (17) (by omega)).trans f148
  have f164 : h154 (19) = .inl (1, 4, .inr (.inl (ws4 (fun _ => 0) (-1) (-1) (-1) (-1)))) := (hk156 (19) (by omega)).trans f149
  have f165 : h154 (21) = .inl (1, 4, .inr (.inl (fun _ => 0))) := (hk156 (21) (by omega)).trans f150
  have f166 : h154 (2) = .inr (11, [.ref 3, .ref 5, .ref 12, .ref 13, .null, .null, .null, .null, .null, .null, .null, .int 0, .int 0, .int 0, .int 0, .int 0]) := (hk156 (2) (by omega)).trans f142
  have B167 : BT (5) (12) h154 := BT_kl B151 hk156 (by omega)
  have B168 : BT (13) (24) h154 := BT_kl B152 hk156 (by omega)
  have K169 : KL (2) h h154 := KL_tr (by omega) K153 hk156
  refine r_dup rfl dX11_init_50 rfl ?_
  refine r_bud (kc' := 68 + (327)) (ks' := 232 + (1168)) (by omega) (by omega) ?_
  refine cl_X11_38 rfl rfl dX11_init_51 (Nat.le_of_ble_eq_true rfl) (s_X0_init hW155 f157) ?_
  rintro _ h170 _ ⟨rfl, hW171, hk172, f174, B173, rfl⟩
  have f175 : h170 (3) = .inr (8, [.ref 4, .int 0, .int 0, .int 0, .int 0, .int 0]) := (hk172 (3) (by omega)).trans f158
  have f176 : h170 (4) = c4 (fun _ => 0) := (hk172 (4) (by omega)).trans f159
  have f177 : h170 (12) = .inl (4, 40, .inr (.inr (.inr (.inr (fun _ => none))))) := (hk172 (12) (by omega)).trans f160
  have f178 : h170 (13) = c13 0 0 0 0 := (hk172 (13) (by omega)).trans f161
  have f179 : h170 (15) = .inl (1, 4, .inr (.inl (ws4 (fun _ => 0) (-1) (-1) (-1) (-1)))) := (hk172 (15) (by omega)).trans f162
  have f180 : h170 (17) = .inl (1, 4, .inr (.inl (ws4 (fun _ => 0) (-1) (-1) (-1) (-1)))) := (hk172 (17) (by omega)).trans f163
  have f181 : h170 (19) = .inl (1, 4, .inr (.inl (ws4 (fun _ => 0) (-1) (-1) (-1) (-1)))) := (hk172 (19) (by omega)).trans f164
  have f182 : h170 (21) = .inl (1, 4, .inr (.inl (fun _ => 0))) := (hk172 (21) (by omega)).trans f165
  have f183 : h170 (2) = .inr (11, [.ref 3, .ref 5, .ref 12, .ref 13, .null, .null, .null, .null, .null, .null, .null, .int 0, .int 0, .int 0, .int 0, .int 0]) := (hk172 (2) (by omega)).trans f166
  have B184 : BT (5) (12) h170 := BT_kl B167 hk172 (by omega)
  have B185 : BT (13) (24) h170 := BT_kl B168 hk172 (by omega)
  have K186 : KL (2) h h170 := KL_tr (by omega) K169 hk172
  refine k_pc 4 (fs' := [.ref 3, .ref 5, .ref 12, .ref 13, .ref 24, .null, .null, .null, .null, .null, .null, .int 0, .int 0, .int 0, .int 0, .int 0]) rfl dX11_init_54 (by omega) (by omega) hW171 f183 (fp_X11_39 rfl rfl (by omega) _) (Nat.le_of_ble_eq_true rfl) rfl (fun h187 hW188 hk189 f190 => ?_)
  have f191 : h187 (3) = .inr (8, [.ref 4, .int 0, .int 0, .int 0, .int 0, .int 0]) := (hk189 (3) (by omega)).trans f175
  have f192 : h187 (4) = c4 (fun _ => 0) := (hk189 (4) (by omega)).trans f176
  have f193 : h187 (12) = .inl (4, 40, .inr (.inr (.inr (.inr (fun _ => none))))) := (hk189 (12) (by omega)).trans f177
  have f194 : h187 (13) = c13 0 0 0 0 := (hk189 (13) (by omega)).trans f178
  have f195 : h187 (15) = .inl (1, 4, .inr (.inl (ws4 (fun _ => 0) (-1) (-1) (-1) (-1)))) := (hk189 (15) (by omega)).trans f179
  have f196 : h187 (17) = .inl (1, 4, .inr (.inl (ws4 (fun _ => 0) (-1) (-1) (-1) (-1)))) := (hk189 (17) (by omega)).trans f180
  have f197 : h187 (19) = .inl (1, 4, .inr (.inl (ws4 (fun _ => 0) (-1) (-1) (-1) (-1)))) := (hk189 (19) (by omega)).trans f181
  have f198 : h187 (21) = .inl (1, 4, .inr (.inl (fun _ => 0))) := (hk189 (21) (by omega)).trans f182
  have f199 : h187 (24) = c24 0 0 0 0 := (hk189 (24) (by omega)).trans f174
  have B200 : BT (5) (12) h187 := BT_kn B184 hk189 (by omega)
  have B201 : BT (13) (24) h187 := BT_kn B185 hk189 (by omega)
  have B202 : BT (24) (93) h187 := BT_kn B173 hk189 (by omega)
  have K203 : KL (2) h h187 := KL_kn (by omega) K186 hk189
  refine r_aload_n rfl dX11_init_57 rfl ?_
  refine r_bud (kc' := 326 + 1) (ks' := 1167 + 1) (by omega) (by omega) ?_
  refine k_new 10 (fs := [.null]) rfl dX11_init_58 hW188 rfl rfl lk_X11_43 lt_X10 lz_X10 rfl (fun h204 hW205 hk206 f207 => ?_)
  have f208 : h204 (3) = .inr (8, [.ref 4, .int 0, .int 0, .int 0, .int 0, .int 0]) := (hk206 (3) (by omega)).trans f191
  have f209 : h204 (4) = c4 (fun _ => 0) := (hk206 (4) (by omega)).trans f192
  have f210 : h204 (12) = .inl (4, 40, .inr (.inr (.inr (.inr (fun _ => none))))) := (hk206 (12) (by omega)).trans f193
  have f211 : h204 (13) = c13 0 0 0 0 := (hk206 (13) (by omega)).trans f194
  have f212 : h204 (15) = .inl (1, 4, .inr (.inl (ws4 (fun _ => 0) (-1) (-1) (-1) (-1)))) := (hk206 (15) (by omega)).trans f195
  have f213 : h204 (17) = .inl (1, 4, .inr (.inl (ws4 (fun _ => 0) (-1) (-1) (-1) (-1)))) := (hk206 (17) (by omega)).trans f196
  have f214 : h204 (19) = .inl (1, 4, .inr (.inl (ws4 (fun _ => 0) (-1) (-1) (-1) (-1)))) := (hk206 (19) (by omega)).trans f197
  have f215 : h204 (21) = .inl (1, 4, .inr (.inl (fun _ => 0))) := (hk206 (21) (by omega)).trans f198
  have f216 : h204 (24) = c24 0 0 0 0 := (hk206 (24) (by omega)).trans f199
  have f217 : h204 (2) = .inr (11, [.ref 3, .ref 5, .ref 12, .ref 13, .ref 24, .null, .null, .null, .null, .null, .null, .int 0, .int 0, .int 0, .int 0, .int 0]) := (hk206 (2) (by omega)).trans f190
  have B218 : BT (5) (12) h204 := BT_kl B200 hk206 (by omega)
  have B219 : BT (13) (24) h204 := BT_kl B201 hk206 (by omega)
  have B220 : BT (24) (93) h204 := BT_kl B202 hk206 (by omega)
  have K221 : KL (2) h h204 := KL_tr (by omega) K203 hk206
  refine r_dup rfl dX11_init_61 rfl ?_
  refine r_bud (kc' := 1 + (325)) (ks' := 5 + (1162)) (by omega) (by omega) ?_
  refine cl_X11_45 rfl rfl dX11_init_62 (Nat.le_of_ble_eq_true rfl) (s_X10_init hW205 (by omega) f207) ?_
  rintro _ h222 _ ⟨rfl, hW223, hk224, f225, f226, rfl⟩
  have f227 : h222 (3) = .inr (8, [.ref 4, .int 0, .int 0, .int 0, .int 0, .int 0]) := (hk224 (3) (by omega)).trans f208
  have f228 : h222 (4) = c4 (fun _ => 0) := (hk224 (4) (by omega)).trans f209
  have f229 : h222 (12) = .inl (4, 40, .inr (.inr (.inr (.inr (fun _ => none))))) := (hk224 (12) (by omega)).trans f210
  have f230 : h222 (13) = c13 0 0 0 0 := (hk224 (13) (by omega)).trans f211
  have f231 : h222 (15) = .inl (1, 4, .inr (.inl (ws4 (fun _ => 0) (-1) (-1) (-1) (-1)))) := (hk224 (15) (by omega)).trans f212
  have f232 : h222 (17) = .inl (1, 4, .inr (.inl (ws4 (fun _ => 0) (-1) (-1) (-1) (-1)))) := (hk224 (17) (by omega)).trans f213
  have f233 : h222 (19) = .inl (1, 4, .inr (.inl (ws4 (fun _ => 0) (-1) (-1) (-1) (-1)))) := (hk224 (19) (by omega)).trans f214
  have f234 : h222 (21) = .inl (1, 4, .inr (.inl (fun _ => 0))) := (hk224 (21) (by omega)).trans f215
  have f235 : h222 (24) = c24 0 0 0 0 := (hk224 (24) (by omega)).trans f216
  have f236 : h222 (2) = .inr (11, [.ref 3, .ref 5, .ref 12, .ref 13, .ref 24, .null, .null, .null, .null, .null, .null, .int 0, .int 0, .int 0, .int 0, .int 0]) := (hk224 (2) (by omega)).trans f217
  have B237 : BT (5) (12) h222 := BT_kl B218 hk224 (by omega)
  have B238 : BT (13) (24) h222 := BT_kl B219 hk224 (by omega)
  have B239 : BT (24) (93) h222 := BT_kl B220 hk224 (by omega)
  have K240 : KL (2) h h222 := KL_tr (by omega) K221 hk224
  refine k_pc 5 (fs' := [.ref 3, .ref 5, .ref 12, .ref 13, .ref 24, .ref 93, .null, .null, .null, .null, .null, .int 0, .int 0, .int 0, .int 0, .int 0]) rfl dX11_init_65 (by omega) (by omega) hW223 f236 (fp_X11_46 rfl rfl (by omega) _) (Nat.le_of_ble_eq_true rfl) rfl (fun h241 hW242 hk243 f244 => ?_)
  have f245 : h241 (3) = .inr (8, [.ref 4, .int 0, .int 0, .int 0, .int 0, .int 0]) := (hk243 (3) (by omega)).trans f227
  have f246 : h241 (4) = c4 (fun _ => 0) := (hk243 (4) (by omega)).trans f228
  have f247 : h241 (12) = .inl (4, 40, .inr (.inr (.inr (.inr (fun _ => none))))) := (hk243 (12) (by omega)).trans f229
  have f248 : h241 (13) = c13 0 0 0 0 := (hk243 (13) (by omega)).trans f230
  have f249 : h241 (15) = .inl (1, 4, .inr (.inl (ws4 (fun _ => 0) (-1) (-1) (-1) (-1)))) := (hk243 (15) (by omega)).trans f231
  have f250 : h241 (17) = .inl (1, 4, .inr (.inl (ws4 (fun _ => 0) (-1) (-1) (-1) (-1)))) := (hk243 (17) (by omega)).trans f232
  have f251 : h241 (19) = .inl (1, 4, .inr (.inl (ws4 (fun _ => 0) (-1) (-1) (-1) (-1)))) := (hk243 (19) (by omega)).trans f233
  have f252 : h241 (21) = .inl (1, 4, .inr (.inl (fun _ => 0))) := (hk243 (21) (by omega)).trans f234
  have f253 : h241 (24) = c24 0 0 0 0 := (hk243 (24) (by omega)).trans f235
  have f254 : h241 (93) = .inr (10, [.ref 94]) := (hk243 (93) (by omega)).trans f225
  have f255 : h241 (94) = .inl (1, 4, .inr (.inl (fun _ => 0))) := (hk243 (94) (by omega)).trans f226
  have B256 : BT (5) (12) h241 := BT_kn B237 hk243 (by omega)
  have B257 : BT (13) (24) h241 := BT_kn B238 hk243 (by omega)
  have B258 : BT (24) (93) h241 := BT_kn B239 hk243 (by omega)
  have K259 : KL (2) h h241 := KL_kn (by omega) K240 hk243
  refine r_aload_n rfl dX11_init_68 rfl ?_
  refine r_bud (kc' := 324 + 1) (ks' := 1161 + 1) (by omega) (by omega) ?_
  refine k_new 9 (fs := [.long 0]) rfl dX11_init_69 hW242 rfl rfl lk_X11_50 lt_X9 lz_X9 rfl (fun h260 hW261 hk262 f263 => ?_)
  have f264 : h260 (3) = .inr (8, [.ref 4, .int 0, .int 0, .int 0, .int 0, .int 0]) := (hk262 (3) (by omega)).trans f245
  have f265 : h260 (4) = c4 (fun _ => 0) := (hk262 (4) (by omega)).trans f246
  have f266 : h260 (12) = .inl (4, 40, .inr (.inr (.inr (.inr (fun _ => none))))) := (hk262 (12) (by omega)).trans f247
  have f267 : h260 (13) = c13 0 0 0 0 := (hk262 (13) (by omega)).trans f248
  have f268 : h260 (15) = .inl (1, 4, .inr (.inl (ws4 (fun _ => 0) (-1) (-1) (-1) (-1)))) := (hk262 (15) (by omega)).trans f249
  have f269 : h260 (17) = .inl (1, 4, .inr (.inl (ws4 (fun _ => 0) (-1) (-1) (-1) (-1)))) := (hk262 (17) (by omega)).trans f250
  have f270 : h260 (19) = .inl (1, 4, .inr (.inl (ws4 (fun _ => 0) (-1) (-1) (-1) (-1)))) := (hk262 (19) (by omega)).trans f251
  have f271 : h260 (21) = .inl (1, 4, .inr (.inl (fun _ => 0))) := (hk262 (21) (by omega)).trans f252
  have f272 : h260 (24) = c24 0 0 0 0 := (hk262 (24) (by omega)).trans f253
  have f273 : h260 (93) = .inr (10, [.ref 94]) := (hk262 (93) (by omega)).trans f254
  have f274 : h260 (94) = .inl (1, 4, .inr (.inl (fun _ => 0))) := (hk262 (94) (by omega)).trans f255
  have f275 : h260 (2) = .inr (11, [.ref 3, .ref 5, .ref 12, .ref 13, .ref 24, .ref 93, .null, .null, .null, .null, .null, .int 0, .int 0, .int 0, .int 0, .int 0]) := (hk262 (2) (by omega)).trans f244
  have B276 : BT (5) (12) h260 := BT_kl B256 hk262 (by omega)
  have B277 : BT (13) (24) h260 := BT_kl B257 hk262 (by omega)
  have B278 : BT (24) (93) h260 := BT_kl B258 hk262 (by omega)
  have K279 : KL (2) h h260 := KL_tr (by omega) K259 hk262
  refine r_dup rfl dX11_init_72 rfl ?_
  refine r_bud (kc' := 0 + (324)) (ks' := 0 + (1161)) (by omega) (by omega) ?_
  refine cl_X11_52 rfl rfl dX11_init_73 (Nat.le_of_ble_eq_true rfl) (s_X9_init hW261) ?_
  rintro _ h280 _ ⟨rfl, e281, rfl⟩
  replace e281 := e281.symm
  subst e281
  refine k_pc 6 (fs' := [.ref 3, .ref 5, .ref 12, .ref 13, .ref 24, .ref 93, .ref 95, .null, .null, .null, .null, .int 0, .int 0, .int 0, .int 0, .int 0]) rfl dX11_init_76 (by omega) (by omega) hW261 f275 (fp_X11_53 rfl rfl (by omega) _) (Nat.le_of_ble_eq_true rfl) rfl (fun h282 hW283 hk284 f285 => ?_)
  have f286 : h282 (3) = .inr (8, [.ref 4, .int 0, .int 0, .int 0, .int 0, .int 0]) := (hk284 (3) (by omega)).trans f264
  have f287 : h282 (4) = c4 (fun _ => 0) := (hk284 (4) (by omega)).trans f265
  have f288 : h282 (12) = .inl (4, 40, .inr (.inr (.inr (.inr (fun _ => none))))) := (hk284 (12) (by omega)).trans f266
  have f289 : h282 (13) = c13 0 0 0 0 := (hk284 (13) (by omega)).trans f267
  have f290 : h282 (15) = .inl (1, 4, .inr (.inl (ws4 (fun _ => 0) (-1) (-1) (-1) (-1)))) := (hk284 (15) (by omega)).trans f268
  have f291 : h282 (17) = .inl (1, 4, .inr (.inl (ws4 (fun _ => 0) (-1) (-1) (-1) (-1)))) := (hk284 (17) (by omega)).trans f269
  have f292 : h282 (19) = .inl (1, 4, .inr (.inl (ws4 (fun _ => 0) (-1) (-1) (-1) (-1)))) := (hk284 (19) (by omega)).trans f270
  have f293 : h282 (21) = .inl (1, 4, .inr (.inl (fun _ => 0))) := (hk284 (21) (by omega)).trans f271
  have f294 : h282 (24) = c24 0 0 0 0 := (hk284 (24) (by omega)).trans f272
  have f295 : h282 (93) = .inr (10, [.ref 94]) := (hk284 (93) (by omega)).trans f273
  have f296 : h282 (94) = .inl (1, 4, .inr (.inl (fun _ => 0))) := (hk284 (94) (by omega)).trans f274
  have f297 : h282 (95) = .inr (9, [.long 0]) := (hk284 (95) (by omega)).trans f263
  have B298 : BT (5) (12) h282 := BT_kn B276 hk284 (by omega)
  have B299 : BT (13) (24) h282 := BT_kn B277 hk284 (by omega)
  have B300 : BT (24) (93) h282 := BT_kn B278 hk284 (by omega)
  have K301 : KL (2) h h282 := KL_kn (by omega) K279 hk284
  refine r_aload_n rfl dX11_init_79 rfl ?_
  refine r_bud (kc' := 323 + 1) (ks' := 1161 + 0) (by omega) (by omega) ?_
  refine k_new 6 (fs := []) rfl dX11_init_80 hW283 rfl rfl lk_X11_57 lt_X6 lz_X6 rfl (fun h302 hW303 hk304 f305 => ?_)
  have f306 : h302 (3) = .inr (8, [.ref 4, .int 0, .int 0, .int 0, .int 0, .int 0]) := (hk304 (3) (by omega)).trans f286
  have f307 : h302 (4) = c4 (fun _ => 0) := (hk304 (4) (by omega)).trans f287
  have f308 : h302 (12) = .inl (4, 40, .inr (.inr (.inr (.inr (fun _ => none))))) := (hk304 (12) (by omega)).trans f288
  have f309 : h302 (13) = c13 0 0 0 0 := (hk304 (13) (by omega)).trans f289
  have f310 : h302 (15) = .inl (1, 4, .inr (.inl (ws4 (fun _ => 0) (-1) (-1) (-1) (-1)))) := (hk304 (15) (by omega)).trans f290
  have f311 : h302 (17) = .inl (1, 4, .inr (.inl (ws4 (fun _ => 0) (-1) (-1) (-1) (-1)))) := (hk304 (17) (by omega)).trans f291
  have f312 : h302 (19) = .inl (1, 4, .inr (.inl (ws4 (fun _ => 0) (-1) (-1) (-1) (-1)))) := (hk304 (19) (by omega)).trans f292
  have f313 : h302 (21) = .inl (1, 4, .inr (.inl (fun _ => 0))) := (hk304 (21) (by omega)).trans f293
  have f314 : h302 (24) = c24 0 0 0 0 := (hk304 (24) (by omega)).trans f294
  have f315 : h302 (93) = .inr (10, [.ref 94]) := (hk304 (93) (by omega)).trans f295
  have f316 : h302 (94) = .inl (1, 4, .inr (.inl (fun _ => 0))) := (hk304 (94) (by omega)).trans f296
  have f317 : h302 (95) = .inr (9, [.long 0]) := (hk304 (95) (by omega)).trans f297
  have f318 : h302 (2) = .inr (11, [.ref 3, .ref 5, .ref 12, .ref 13, .ref 24, .ref 93, .ref 95, .null, .null, .null, .null, .int 0, .int 0, .int 0, .int 0, .int 0]) := (hk304 (2) (by omega)).trans f285
  have B319 : BT (5) (12) h302 := BT_kl B298 hk304 (by omega)
  have B320 : BT (13) (24) h302 := BT_kl B299 hk304 (by omega)
  have B321 : BT (24) (93) h302 := BT_kl B300 hk304 (by omega)
  have K322 : KL (2) h h302 := KL_tr (by omega) K301 hk304
  refine r_dup rfl dX11_init_83 rfl ?_
  refine r_bud (kc' := 0 + (323)) (ks' := 0 + (1161)) (by omega) (by omega) ?_
  refine cl_X11_59 rfl rfl dX11_init_84 (Nat.le_of_ble_eq_true rfl) (s_X6_init hW303) ?_
  rintro _ h323 _ ⟨rfl, e324, rfl⟩
  replace e324 := e324.symm
  subst e324
  refine k_pc 7 (fs' := [.ref 3, .ref 5, .ref 12, .ref 13, .ref 24, .ref 93, .ref 95, .ref 96, .null, .null, .null, .int 0, .int 0, .int 0, .int 0, .int 0]) rfl dX11_init_87 (by omega) (by omega) hW303 f318 (fp_X11_60 rfl rfl (by omega) _) (Nat.le_of_ble_eq_true rfl) rfl (fun h325 hW326 hk327 f328 => ?_)
  have f329 : h325 (3) = .inr (8, [.ref 4, .int 0, .int 0, .int 0, .int 0, .int 0]) := (hk327 (3) (by omega)).trans f306
  have f330 : h325 (4) = c4 (fun _ => 0) := (hk327 (4) (by omega)).trans f307
  have f331 : h325 (12) = .inl (4, 40, .inr (.inr (.inr (.inr (fun _ => none))))) := (hk327 (12) (by omega)).trans f308
  have f332 : h325 (13) = c13 0 0 0 0 := (hk327 (13) (by omega)).trans f309
  have f333 : h325 (15) = .inl (1, 4, .inr (.inl (ws4 (fun _ => 0) (-1) (-1) (-1) (-1)))) := (hk327 (15) (by omega)).trans f310
  have f334 : h325 (17) = .inl (1, 4, .inr (.inl (ws4 (fun _ => 0) (-1) (-1) (-1) (-1)))) := (hk327 (17) (by omega)).trans f311
  have f335 : h325 (19) = .inl (1, 4, .inr (.inl (ws4 (fun _ => 0) (-1) (-1) (-1) (-1)))) := (hk327 (19) (by omega)).trans f312
  have f336 : h325 (21) = .inl (1, 4, .inr (.inl (fun _ => 0))) := (hk327 (21) (by omega)).trans f313
  have f337 : h325 (24) = c24 0 0 0 0 := (hk327 (24) (by omega)).trans f314
  have f338 : h325 (93) = .inr (10, [.ref 94]) := (hk327 (93) (by omega)).trans f315
  have f339 : h325 (94) = .inl (1, 4, .inr (.inl (fun _ => 0))) := (hk327 (94) (by omega)).trans f316
  have f340 : h325 (95) = .inr (9, [.long 0]) := (hk327 (95) (by omega)).trans f317
  have f341 : h325 (96) = .inr (6, []) := (hk327 (96) (by omega)).trans f305
  have B342 : BT (5) (12) h325 := BT_kn B319 hk327 (by omega)
  have B343 : BT (13) (24) h325 := BT_kn B320 hk327 (by omega)
  have B344 : BT (24) (93) h325 := BT_kn B321 hk327 (by omega)
  have K345 : KL (2) h h325 := KL_kn (by omega) K322 hk327
  refine r_aload_n rfl dX11_init_90 rfl ?_
  refine r_bud (kc' := 322 + 1) (ks' := 1161 + 0) (by omega) (by omega) ?_
  refine k_new 2 (fs := []) rfl dX11_init_91 hW326 rfl rfl lk_X11_64 lt_X2 lz_X2 rfl (fun h346 hW347 hk348 f349 => ?_)
  have f350 : h346 (3) = .inr (8, [.ref 4, .int 0, .int 0, .int 0, .int 0, .int 0]) := (hk348 (3) (by omega)).trans f329
  have f351 : h346 (4) = c4 (fun _ => 0) := (hk348 (4) (by omega)).trans f330
  have f352 : h346 (12) = .inl (4, 40, .inr (.inr (.inr (.inr (fun _ => none))))) := (hk348 (12) (by omega)).trans f331
  have f353 : h346 (13) = c13 0 0 0 0 := (hk348 (13) (by omega)).trans f332
  have f354 : h346 (15) = .inl (1, 4, .inr (.inl (ws4 (fun _ => 0) (-1) (-1) (-1) (-1)))) := (hk348 (15) (by omega)).trans f333
  have f355 : h346 (17) = .inl (1, 4, .inr (.inl (ws4 (fun _ => 0) (-1) (-1) (-1) (-1)))) := (hk348 (17) (by omega)).trans f334
  have f356 : h346 (19) = .inl (1, 4, .inr (.inl (ws4 (fun _ => 0) (-1) (-1) (-1) (-1)))) := (hk348 (19) (by omega)).trans f335
  have f357 : h346 (21) = .inl (1, 4, .inr (.inl (fun _ => 0))) := (hk348 (21) (by omega)).trans f336
  have f358 : h346 (24) = c24 0 0 0 0 := (hk348 (24) (by omega)).trans f337
  have f359 : h346 (93) = .inr (10, [.ref 94]) := (hk348 (93) (by omega)).trans f338
  have f360 : h346 (94) = .inl (1, 4, .inr (.inl (fun _ => 0))) := (hk348 (94) (by omega)).trans f339
  have f361 : h346 (95) = .inr (9, [.long 0]) := (hk348 (95) (by omega)).trans f340
  have f362 : h346 (96) = .inr (6, []) := (hk348 (96) (by omega)).trans f341
  have f363 : h346 (2) = .inr (11, [.ref 3, .ref 5, .ref 12, .ref 13, .ref 24, .ref 93, .ref 95, .ref 96, .null, .null, .null, .int 0, .int 0, .int 0, .int 0, .int 0]) := (hk348 (2) (by omega)).trans f328
  have B364 : BT (5) (12) h346 := BT_kl B342 hk348 (by omega)
  have B365 : BT (13) (24) h346 := BT_kl B343 hk348 (by omega)
  have B366 : BT (24) (93) h346 := BT_kl B344 hk348 (by omega)
  have K367 : KL (2) h h346 := KL_tr (by omega) K345 hk348
  refine r_dup rfl dX11_init_94 rfl ?_
  refine r_bud (kc' := 0 + (322)) (ks' := 0 + (1161)) (by omega) (by omega) ?_
  refine cl_X11_66 rfl rfl dX11_init_95 (Nat.le_of_ble_eq_true rfl) (s_X2_init hW347) ?_
  rintro _ h368 _ ⟨rfl, e369, rfl⟩
  replace e369 := e369.symm
  subst e369
  refine k_pc 8 (fs' := [.ref 3, .ref 5, .ref 12, .ref 13, .ref 24, .ref 93, .ref 95, .ref 96, .ref 97, .null, .null, .int 0, .int 0, .int 0, .int 0, .int 0]) rfl dX11_init_98 (by omega) (by omega) hW347 f363 (fp_X11_67 rfl rfl (by omega) _) (Nat.le_of_ble_eq_true rfl) rfl (fun h370 hW371 hk372 f373 => ?_)
  have f374 : h370 (3) = .inr (8, [.ref 4, .int 0, .int 0, .int 0, .int 0, .int 0]) := (hk372 (3) (by omega)).trans f350
  have f375 : h370 (4) = c4 (fun _ => 0) := (hk372 (4) (by omega)).trans f351
  have f376 : h370 (12) = .inl (4, 40, .inr (.inr (.inr (.inr (fun _ => none))))) := (hk372 (12) (by omega)).trans f352
  have f377 : h370 (13) = c13 0 0 0 0 := (hk372 (13) (by omega)).trans f353
  have f378 : h370 (15) = .inl (1, 4, .inr (.inl (ws4 (fun _ => 0) (-1) (-1) (-1) (-1)))) := (hk372 (15) (by omega)).trans f354
  have f379 : h370 (17) = .inl (1, 4, .inr (.inl (ws4 (fun _ => 0) (-1) (-1) (-1) (-1)))) := (hk372 (17) (by omega)).trans f355
  have f380 : h370 (19) = .inl (1, 4, .inr (.inl (ws4 (fun _ => 0) (-1) (-1) (-1) (-1)))) := (hk372 (19) (by omega)).trans f356
  have f381 : h370 (21) = .inl (1, 4, .inr (.inl (fun _ => 0))) := (hk372 (21) (by omega)).trans f357
  have f382 : h370 (24) = c24 0 0 0 0 := (hk372 (24) (by omega)).trans f358
  have f383 : h370 (93) = .inr (10, [.ref 94]) := (hk372 (93) (by omega)).trans f359
  have f384 : h370 (94) = .inl (1, 4, .inr (.inl (fun _ => 0))) := (hk372 (94) (by omega)).trans f360
  have f385 : h370 (95) = .inr (9, [.long 0]) := (hk372 (95) (by omega)).trans f361
  have f386 : h370 (96) = .inr (6, []) := (hk372 (96) (by omega)).trans f362
  have f387 : h370 (97) = .inr (2, []) := (hk372 (97) (by omega)).trans f349
  have B388 : BT (5) (12) h370 := BT_kn B364 hk372 (by omega)
  have B389 : BT (13) (24) h370 := BT_kn B365 hk372 (by omega)
  have B390 : BT (24) (93) h370 := BT_kn B366 hk372 (by omega)
  have K391 : KL (2) h h370 := KL_kn (by omega) K367 hk372
  refine r_aload_n rfl dX11_init_101 rfl ?_
  refine r_bud (kc' := 321 + 1) (ks' := 1161 + 0) (by omega) (by omega) ?_
  refine k_new 5 (fs := []) rfl dX11_init_102 hW371 rfl rfl lk_X11_70 lt_X5 lz_X5 rfl (fun h392 hW393 hk394 f395 => ?_)
  have f396 : h392 (3) = .inr (8, [.ref 4, .int 0, .int 0, .int 0, .int 0, .int 0]) := (hk394 (3) (by omega)).trans f374
  have f397 : h392 (4) = c4 (fun _ => 0) := (hk394 (4) (by omega)).trans f375
  have f398 : h392 (12) = .inl (4, 40, .inr (.inr (.inr (.inr (fun _ => none))))) := (hk394 (12) (by omega)).trans f376
  have f399 : h392 (13) = c13 0 0 0 0 := (hk394 (13) (by omega)).trans f377
  have f400 : h392 (15) = .inl (1, 4, .inr (.inl (ws4 (fun _ => 0) (-1) (-1) (-1) (-1)))) := (hk394 (15) (by omega)).trans f378
  have f401 : h392 (17) = .inl (1, 4, .inr (.inl (ws4 (fun _ => 0) (-1) (-1) (-1) (-1)))) := (hk394 (17) (by omega)).trans f379
  have f402 : h392 (19) = .inl (1, 4, .inr (.inl (ws4 (fun _ => 0) (-1) (-1) (-1) (-1)))) := (hk394 (19) (by omega)).trans f380
  have f403 : h392 (21) = .inl (1, 4, .inr (.inl (fun _ => 0))) := (hk394 (21) (by omega)).trans f381
  have f404 : h392 (24) = c24 0 0 0 0 := (hk394 (24) (by omega)).trans f382
  have f405 : h392 (93) = .inr (10, [.ref 94]) := (hk394 (93) (by omega)).trans f383
  have f406 : h392 (94) = .inl (1, 4, .inr (.inl (fun _ => 0))) := (hk394 (94) (by omega)).trans f384
  have f407 : h392 (95) = .inr (9, [.long 0]) := (hk394 (95) (by omega)).trans f385
  have f408 : h392 (96) = .inr (6, []) := (hk394 (96) (by omega)).trans f386
  have f409 : h392 (97) = .inr (2, []) := (hk394 (97) (by omega)).trans f387
  have f410 : h392 (2) = .inr (11, [.ref 3, .ref 5, .ref 12, .ref 13, .ref 24, .ref 93, .ref 95, .ref 96, .ref 97, .null, .null, .int 0, .int 0, .int 0, .int 0, .int 0]) := (hk394 (2) (by omega)).trans f373
  have B411 : BT (5) (12) h392 := BT_kl B388 hk394 (by omega)
  have B412 : BT (13) (24) h392 := BT_kl B389 hk394 (by omega)
  have B413 : BT (24) (93) h392 := BT_kl B390 hk394 (by omega)
  have K414 : KL (2) h h392 := KL_tr (by omega) K391 hk394
  refine r_dup rfl dX11_init_105 rfl ?_
  refine r_bud (kc' := 0 + (321)) (ks' := 0 + (1161)) (by omega) (by omega) ?_
  refine cl_X11_72 rfl rfl dX11_init_106 (Nat.le_of_ble_eq_true rfl) (s_X5_init hW393) ?_
  rintro _ h415 _ ⟨rfl, e416, rfl⟩
  replace e416 := e416.symm
  subst e416
  refine k_pc 9 (fs' := [.ref 3, .ref 5, .ref 12, .ref 13, .ref 24, .ref 93, .ref 95, .ref 96, .ref 97, .ref 98, .null, .int 0, .int 0, .int 0, .int 0, .int 0]) rfl dX11_init_109 (by omega) (by omega) hW393 f410 (fp_X11_73 rfl rfl (by omega) _) (Nat.le_of_ble_eq_true rfl) rfl (fun h417 hW418 hk419 f420 => ?_)
  have f421 : h417 (3) = .inr (8, [.ref 4, .int 0, .int 0, .int 0, .int 0, .int 0]) := (hk419 (3) (by omega)).trans f396
  have f422 : h417 (4) = c4 (fun _ => 0) := (hk419 (4) (by omega)).trans f397
  have f423 : h417 (12) = .inl (4, 40, .inr (.inr (.inr (.inr (fun _ => none))))) := (hk419 (12) (by omega)).trans f398
  have f424 : h417 (13) = c13 0 0 0 0 := (hk419 (13) (by omega)).trans f399
  have f425 : h417 (15) = .inl (1, 4, .inr (.inl (ws4 (fun _ => 0) (-1) (-1) (-1) (-1)))) := (hk419 (15) (by omega)).trans f400
  have f426 : h417 (17) = .inl (1, 4, .inr (.inl (ws4 (fun _ => 0) (-1) (-1) (-1) (-1)))) := (hk419 (17) (by omega)).trans f401
  have f427 : h417 (19) = .inl (1, 4, .inr (.inl (ws4 (fun _ => 0) (-1) (-1) (-1) (-1)))) := (hk419 (19) (by omega)).trans f402
  have f428 : h417 (21) = .inl (1, 4, .inr (.inl (fun _ => 0))) := (hk419 (21) (by omega)).trans f403
  have f429 : h417 (24) = c24 0 0 0 0 := (hk419 (24) (by omega)).trans f404
  have f430 : h417 (93) = .inr (10, [.ref 94]) := (hk419 (93) (by omega)).trans f405
  have f431 : h417 (94) = .inl (1, 4, .inr (.inl (fun _ => 0))) := (hk419 (94) (by omega)).trans f406
  have f432 : h417 (95) = .inr (9, [.long 0]) := (hk419 (95) (by omega)).trans f407
  have f433 : h417 (96) = .inr (6, []) := (hk419 (96) (by omega)).trans f408
  have f434 : h417 (97) = .inr (2, []) := (hk419 (97) (by omega)).trans f409
  have f435 : h417 (98) = .inr (5, []) := (hk419 (98) (by omega)).trans f395
  have B436 : BT (5) (12) h417 := BT_kn B411 hk419 (by omega)
  have B437 : BT (13) (24) h417 := BT_kn B412 hk419 (by omega)
  have B438 : BT (24) (93) h417 := BT_kn B413 hk419 (by omega)
  have K439 : KL (2) h h417 := KL_kn (by omega) K414 hk419
  refine r_aload_n rfl dX11_init_112 rfl ?_
  refine r_bud (kc' := 320 + 1) (ks' := 1161 + 0) (by omega) (by omega) ?_
  refine k_new 1 (fs := []) rfl dX11_init_113 hW418 rfl rfl lk_X11_76 lt_X1 lz_X1 rfl (fun h440 hW441 hk442 f443 => ?_)
  have f444 : h440 (3) = .inr (8, [.ref 4, .int 0, .int 0, .int 0, .int 0, .int 0]) := (hk442 (3) (by omega)).trans f421
  have f445 : h440 (4) = c4 (fun _ => 0) := (hk442 (4) (by omega)).trans f422
  have f446 : h440 (12) = .inl (4, 40, .inr (.inr (.inr (.inr (fun _ => none))))) := (hk442 (12) (by omega)).trans f423
  have f447 : h440 (13) = c13 0 0 0 0 := (hk442 (13) (by omega)).trans f424
  have f448 : h440 (15) = .inl (1, 4, .inr (.inl (ws4 (fun _ => 0) (-1) (-1) (-1) (-1)))) := (hk442 (15) (by omega)).trans f425
  have f449 : h440 (17) = .inl (1, 4, .inr (.inl (ws4 (fun _ => 0) (-1) (-1) (-1) (-1)))) := (hk442 (17) (by omega)).trans f426
  have f450 : h440 (19) = .inl (1, 4, .inr (.inl (ws4 (fun _ => 0) (-1) (-1) (-1) (-1)))) := (hk442 (19) (by omega)).trans f427
  have f451 : h440 (21) = .inl (1, 4, .inr (.inl (fun _ => 0))) := (hk442 (21) (by omega)).trans f428
  have f452 : h440 (24) = c24 0 0 0 0 := (hk442 (24) (by omega)).trans f429
  have f453 : h440 (93) = .inr (10, [.ref 94]) := (hk442 (93) (by omega)).trans f430
  have f454 : h440 (94) = .inl (1, 4, .inr (.inl (fun _ => 0))) := (hk442 (94) (by omega)).trans f431
  have f455 : h440 (95) = .inr (9, [.long 0]) := (hk442 (95) (by omega)).trans f432
  have f456 : h440 (96) = .inr (6, []) := (hk442 (96) (by omega)).trans f433
  have f457 : h440 (97) = .inr (2, []) := (hk442 (97) (by omega)).trans f434
  have f458 : h440 (98) = .inr (5, []) := (hk442 (98) (by omega)).trans f435
  have f459 : h440 (2) = .inr (11, [.ref 3, .ref 5, .ref 12, .ref 13, .ref 24, .ref 93, .ref 95, .ref 96, .ref 97, .ref 98, .null, .int 0, .int 0, .int 0, .int 0, .int 0]) := (hk442 (2) (by omega)).trans f420
  have B460 : BT (5) (12) h440 := BT_kl B436 hk442 (by omega)
  have B461 : BT (13) (24) h440 := BT_kl B437 hk442 (by omega)
  have B462 : BT (24) (93) h440 := BT_kl B438 hk442 (by omega)
  have K463 : KL (2) h h440 := KL_tr (by omega) K439 hk442
  refine r_dup rfl dX11_init_116 rfl ?_
  refine r_bud (kc' := 0 + (320)) (ks' := 0 + (1161)) (by omega) (by omega) ?_
  refine cl_X11_78 rfl rfl dX11_init_117 (Nat.le_of_ble_eq_true rfl) (s_X1_init hW441) ?_
  rintro _ h464 _ ⟨rfl, e465, rfl⟩
  replace e465 := e465.symm
  subst e465
  refine k_pc 10 (fs' := [.ref 3, .ref 5, .ref 12, .ref 13, .ref 24, .ref 93, .ref 95, .ref 96, .ref 97, .ref 98, .ref 99, .int 0, .int 0, .int 0, .int 0, .int 0]) rfl dX11_init_120 (by omega) (by omega) hW441 f459 (fp_X11_79 rfl rfl (by omega) _) (Nat.le_of_ble_eq_true rfl) rfl (fun h466 hW467 hk468 f469 => ?_)
  have f470 : h466 (3) = .inr (8, [.ref 4, .int 0, .int 0, .int 0, .int 0, .int 0]) := (hk468 (3) (by omega)).trans f444
  have f471 : h466 (4) = c4 (fun _ => 0) := (hk468 (4) (by omega)).trans f445
  have f472 : h466 (12) = .inl (4, 40, .inr (.inr (.inr (.inr (fun _ => none))))) := (hk468 (12) (by omega)).trans f446
  have f473 : h466 (13) = c13 0 0 0 0 := (hk468 (13) (by omega)).trans f447
  have f474 : h466 (15) = .inl (1, 4, .inr (.inl (ws4 (fun _ => 0) (-1) (-1) (-1) (-1)))) := (hk468 (15) (by omega)).trans f448
  have f475 : h466 (17) = .inl (1, 4, .inr (.inl (ws4 (fun _ => 0) (-1) (-1) (-1) (-1)))) := (hk468 (17) (by omega)).trans f449
  have f476 : h466 (19) = .inl (1, 4, .inr (.inl (ws4 (fun _ => 0) (-1) (-1) (-1) (-1)))) := (hk468 (19) (by omega)).trans f450
  have f477 : h466 (21) = .inl (1, 4, .inr (.inl (fun _ => 0))) := (hk468 (21) (by omega)).trans f451
  have f478 : h466 (24) = c24 0 0 0 0 := (hk468 (24) (by omega)).trans f452
  have f479 : h466 (93) = .inr (10, [.ref 94]) := (hk468 (93) (by omega)).trans f453
  have f480 : h466 (94) = .inl (1, 4, .inr (.inl (fun _ => 0))) := (hk468 (94) (by omega)).trans f454
  have f481 : h466 (95) = .inr (9, [.long 0]) := (hk468 (95) (by omega)).trans f455
  have f482 : h466 (96) = .inr (6, []) := (hk468 (96) (by omega)).trans f456
  have f483 : h466 (97) = .inr (2, []) := (hk468 (97) (by omega)).trans f457
  have f484 : h466 (98) = .inr (5, []) := (hk468 (98) (by omega)).trans f458
  have f485 : h466 (99) = .inr (1, []) := (hk468 (99) (by omega)).trans f443
  have B486 : BT (5) (12) h466 := BT_kn B460 hk468 (by omega)
  have B487 : BT (13) (24) h466 := BT_kn B461 hk468 (by omega)
  have B488 : BT (24) (93) h466 := BT_kn B462 hk468 (by omega)
  have K489 : KL (2) h h466 := KL_kn (by omega) K463 hk468
  refine r_aload_n rfl dX11_init_123 rfl ?_
  refine r_bipush (v := (-9)) rfl dX11_init_124 (by decide) ?_
  refine k_pc 14 (fs' := [.ref 3, .ref 5, .ref 12, .ref 13, .ref 24, .ref 93, .ref 95, .ref 96, .ref 97, .ref 98, .ref 99, .int 0, .int 0, .int 0, .int (-9), .int 0]) rfl dX11_init_126 (by omega) (by omega) hW467 f469 (fp_X11_82 rfl _) (Nat.le_of_ble_eq_true rfl) rfl (fun h490 hW491 hk492 f493 => ?_)
  have f494 : h490 (3) = .inr (8, [.ref 4, .int 0, .int 0, .int 0, .int 0, .int 0]) := (hk492 (3) (by omega)).trans f470
  have f495 : h490 (4) = c4 (fun _ => 0) := (hk492 (4) (by omega)).trans f471
  have f496 : h490 (12) = .inl (4, 40, .inr (.inr (.inr (.inr (fun _ => none))))) := (hk492 (12) (by omega)).trans f472
  have f497 : h490 (13) = c13 0 0 0 0 := (hk492 (13) (by omega)).trans f473
  have f498 : h490 (15) = .inl (1, 4, .inr (.inl (ws4 (fun _ => 0) (-1) (-1) (-1) (-1)))) := (hk492 (15) (by omega)).trans f474
  have f499 : h490 (17) = .inl (1, 4, .inr (.inl (ws4 (fun _ => 0) (-1) (-1) (-1) (-1)))) := (hk492 (17) (by omega)).trans f475
  have f500 : h490 (19) = .inl (1, 4, .inr (.inl (ws4 (fun _ => 0) (-1) (-1) (-1) (-1)))) := (hk492 (19) (by omega)).trans f476
  have f501 : h490 (21) = .inl (1, 4, .inr (.inl (fun _ => 0))) := (hk492 (21) (by omega)).trans f477
  have f502 : h490 (24) = c24 0 0 0 0 := (hk492 (24) (by omega)).trans f478
  have f503 : h490 (93) = .inr (10, [.ref 94]) := (hk492 (93) (by omega)).trans f479
  have f504 : h490 (94) = .inl (1, 4, .inr (.inl (fun _ => 0))) := (hk492 (94) (by omega)).trans f480
  have f505 : h490 (95) = .inr (9, [.long 0]) := (hk492 (95) (by omega)).trans f481
  have f506 : h490 (96) = .inr (6, []) := (hk492 (96) (by omega)).trans f482
  have f507 : h490 (97) = .inr (2, []) := (hk492 (97) (by omega)).trans f483
  have f508 : h490 (98) = .inr (5, []) := (hk492 (98) (by omega)).trans f484
  have f509 : h490 (99) = .inr (1, []) := (hk492 (99) (by omega)).trans f485
  have B510 : BT (5) (12) h490 := BT_kn B486 hk492 (by omega)
  have B511 : BT (13) (24) h490 := BT_kn B487 hk492 (by omega)
  have B512 : BT (24) (93) h490 := BT_kn B488 hk492 (by omega)
  have K513 : KL (2) h h490 := KL_kn (by omega) K489 hk492
  refine r_aload_n rfl dX11_init_129 rfl ?_
  refine r_bipush (v := (-9)) rfl dX11_init_130 (by decide) ?_
  refine k_pc 15 (fs' := [.ref 3, .ref 5, .ref 12, .ref 13, .ref 24, .ref 93, .ref 95, .ref 96, .ref 97, .ref 98, .ref 99, .int 0, .int 0, .int 0, .int (-9), .int (-9)]) rfl dX11_init_132 (by omega) (by omega) hW491 f493 (fp_X11_86 rfl _) (Nat.le_of_ble_eq_true rfl) rfl (fun h514 hW515 hk516 f517 => ?_)
  have f518 : h514 (3) = .inr (8, [.ref 4, .int 0, .int 0, .int 0, .int 0, .int 0]) := (hk516 (3) (by omega)).trans f494
  have f519 : h514 (4) = c4 (fun _ => 0) := (hk516 (4) (by omega)).trans f495
  have f520 : h514 (12) = .inl (4, 40, .inr (.inr (.inr (.inr (fun _ => none))))) := (hk516 (12) (by omega)).trans f496
  have f521 : h514 (13) = c13 0 0 0 0 := (hk516 (13) (by omega)).trans f497
  have f522 : h514 (15) = .inl (1, 4, .inr (.inl (ws4 (fun _ => 0) (-1) (-1) (-1) (-1)))) := (hk516 (15) (by omega)).trans f498
  have f523 : h514 (17) = .inl (1, 4, .inr (.inl (ws4 (fun _ => 0) (-1) (-1) (-1) (-1)))) := (hk516 (17) (by omega)).trans f499
  have f524 : h514 (19) = .inl (1, 4, .inr (.inl (ws4 (fun _ => 0) (-1) (-1) (-1) (-1)))) := (hk516 (19) (by omega)).trans f500
  have f525 : h514 (21) = .inl (1, 4, .inr (.inl (fun _ => 0))) := (hk516 (21) (by omega)).trans f501
  have f526 : h514 (24) = c24 0 0 0 0 := (hk516 (24) (by omega)).trans f502
  have f527 : h514 (93) = .inr (10, [.ref 94]) := (hk516 (93) (by omega)).trans f503
  have f528 : h514 (94) = .inl (1, 4, .inr (.inl (fun _ => 0))) := (hk516 (94) (by omega)).trans f504
  have f529 : h514 (95) = .inr (9, [.long 0]) := (hk516 (95) (by omega)).trans f505
  have f530 : h514 (96) = .inr (6, []) := (hk516 (96) (by omega)).trans f506
  have f531 : h514 (97) = .inr (2, []) := (hk516 (97) (by omega)).trans f507
  have f532 : h514 (98) = .inr (5, []) := (hk516 (98) (by omega)).trans f508
  have f533 : h514 (99) = .inr (1, []) := (hk516 (99) (by omega)).trans f509
  have B534 : BT (5) (12) h514 := BT_kn B510 hk516 (by omega)
  have B535 : BT (13) (24) h514 := BT_kn B511 hk516 (by omega)
  have B536 : BT (24) (93) h514 := BT_kn B512 hk516 (by omega)
  have K537 : KL (2) h h514 := KL_kn (by omega) K513 hk516
  refine r_iconst (v := 0) rfl dX11_init_135 (by decide) ?_
  refine r_istore_n (ls' := [some (.ref 2), some (.int 0)]) rfl dX11_init_136 (Nat.le_of_ble_eq_true rfl) rfl ?_
  refine r_bud (kc' := 8 * 40) (ks' := 29 * 40 + 1) rfl rfl ?_
  exact s_X11i 40 0 h514 rfl hW515 K537 f517 f518 f519 (by rw [f520, fl_all 100 8 40]) f526 f529 f521 f522 f523 f524 f525 f528 B534 (BT_jn (BT_jn (BT_jn (BT_jn (BT_jn (BT_jn (BT_jn B535 B536) (BT_ws wsAt_93 f527 f528)) (BT_1 f529 (sse_rf _))) (BT_1 f530 (sse_rf _))) (BT_1 f531 (sse_rf _))) (BT_1 f532 (sse_rf _))) (BT_1 f533 (sse_rf _)))
set_option maxRecDepth 20000 in
set_option maxHeartbeats 1000000 in
theorem s_X12_init {xs : Nat → Int32} {L d : Nat} {h : ev_H}  (hW : WTH h) (f0 : h 420 = .inr (12, [.int 0, .long 0, .null, .int 0, .int 0, .int 0, .int 0, .int 0, .int 0, .int 0, .int 0, .int 0, .int 0, .null, .null, .null, .null, .null, .null, .null, .null, .null, .null, .null, .null])) (hB : BT 2 420 h) : EV xs L (d + 3) (13) (1329) M_X12_init (421) h 0 [some (.ref 420)] [] (fun sz' h' r => sz' = 434 ∧ SH h' ∧ KL 420 h h' ∧ h' 420 = c420 0 0 0 0 0 0 0 0 0 0 0 (-9) ∧ h' 421 = c421 (fun _ => 0) ∧ r = []) := by
  refine r_aload_n rfl dX12_init_0 rfl ?_
  refine r_oinit rfl dX12_init_1 (Nat.succ_pos _) (Nat.le_of_ble_eq_true rfl) lo_X12 lk_oi lk_oc ?_
  refine r_aload_n rfl dX12_init_4 rfl ?_
  refine r_sipush (v := 300) rfl dX12_init_5 (by decide) ?_
  refine r_bud (kc' := 12 + 1) (ks' := 1029 + 300) (by omega) (by omega) ?_
  refine k_newa rfl dX12_init_8 hW (by decide) (by decide) (by decide) rfl lac_int (fun h51 hW52 hk53 f54 => ?_)
  have f55 : h51 (421) = .inl (0, 300, .inl (fun _ => 0)) := f54
  have f56 : h51 (420) = .inr (12, [.int 0, .long 0, .null, .int 0, .int 0, .int 0, .int 0, .int 0, .int 0, .int 0, .int 0, .int 0, .int 0, .null, .null, .null, .null, .null, .null, .null, .null, .null, .null, .null, .null]) := (hk53 (420) (by omega)).trans f0
  have B57 : BT (2) (420) h51 := BT_kl hB hk53 (by omega)
  have K58 : KL (420) h h51 := KL_tr (by omega) (KL_rf (420) h) hk53
  refine k_pc 2 (fs' := [.int 0, .long 0, .ref 421, .int 0, .int 0, .int 0, .int 0, .int 0, .int 0, .int 0, .int 0, .int 0, .int 0, .null, .null, .null, .null, .null, .null, .null, .null, .null, .null, .null, .null]) rfl dX12_init_10 (by omega) (by omega) hW52 f56 (fp_X12_7 rfl rfl (by omega) _) (Nat.le_of_ble_eq_true rfl) rfl (fun h59 hW60 hk61 f62 => ?_)
  have f63 : h59 (421) = .inl (0, 300, .inl (fun _ => 0)) := (hk61 (421) (by omega)).trans f55
  have B64 : BT (2) (420) h59 := BT_kn B57 hk61 (by omega)
  have K65 : KL (420) h h59 := KL_kn (by omega) K58 hk61
  refine r_aload_n rfl dX12_init_13 rfl ?_
  refine r_bipush (v := (-9)) rfl dX12_init_14 (by decide) ?_
  refine k_pc 12 (fs' := [.int 0, .long 0, .ref 421, .int 0, .int 0, .int 0, .int 0, .int 0, .int 0, .int 0, .int 0, .int 0, .int (-9), .null, .null, .null, .null, .null, .null, .null, .null, .null, .null, .null, .null]) rfl dX12_init_16 (by omega) (by omega) hW60 f62 (fp_X12_13 rfl _) (Nat.le_of_ble_eq_true rfl) rfl (fun h66 hW67 hk68 f69 => ?_)
  have f70 : h66 (421) = .inl (0, 300, .inl (fun _ => 0)) := (hk68 (421) (by omega)).trans f63
  have B71 : BT (2) (420) h66 := BT_kn B64 hk68 (by omega)
  have K72 : KL (420) h h66 := KL_kn (by omega) K65 hk68
  refine r_aload_n rfl dX12_init_19 rfl ?_
  refine r_sipush (v := 240) rfl dX12_init_20 (by decide) ?_
  refine r_bud (kc' := 11 + 1) (ks' := 789 + 240) (by omega) (by omega) ?_
  refine k_newa rfl dX12_init_23 hW67 (by decide) (by decide) (by decide) rfl lac_int (fun h73 hW74 hk75 f76 => ?_)
  have f77 : h73 (422) = .inl (0, 240, .inl (fun _ => 0)) := f76
  have f78 : h73 (421) = .inl (0, 300, .inl (fun _ => 0)) := (hk75 (421) (by omega)).trans f70
  have f79 : h73 (420) = .inr (12, [.int 0, .long 0, .ref 421, .int 0, .int 0, .int 0, .int 0, .int 0, .int 0, .int 0, .int 0, .int 0, .int (-9), .null, .null, .null, .null, .null, .null, .null, .null, .null, .null, .null, .null]) := (hk75 (420) (by omega)).trans f69
  have B80 : BT (2) (420) h73 := BT_kl B71 hk75 (by omega)
  have K81 : KL (420) h h73 := KL_tr (by omega) K72 hk75
  refine k_pc 13 (fs' := [.int 0, .long 0, .ref 421, .int 0, .int 0, .int 0, .int 0, .int 0, .int 0, .int 0, .int 0, .int 0, .int (-9), .ref 422, .null, .null, .null, .null, .null, .null, .null, .null, .null, .null, .null]) rfl dX12_init_25 (by omega) (by omega) hW74 f79 (fp_X12_17 rfl rfl (by omega) _) (Nat.le_of_ble_eq_true rfl) rfl (fun h82 hW83 hk84 f85 => ?_)
  have f86 : h82 (421) = .inl (0, 300, .inl (fun _ => 0)) := (hk84 (421) (by omega)).trans f78
  have f87 : h82 (422) = .inl (0, 240, .inl (fun _ => 0)) := (hk84 (422) (by omega)).trans f77
  have B88 : BT (2) (420) h82 := BT_kn B80 hk84 (by omega)
  have K89 : KL (420) h h82 := KL_kn (by omega) K81 hk84
  refine r_aload_n rfl dX12_init_28 rfl ?_
  refine r_bipush (v := 48) rfl dX12_init_29 (by decide) ?_
  refine r_bud (kc' := 10 + 1) (ks' := 741 + 48) (by omega) (by omega) ?_
  refine k_newa rfl dX12_init_31 hW83 (by decide) (by decide) (by decide) rfl lac_int (fun h90 hW91 hk92 f93 => ?_)
  have f94 : h90 (423) = .inl (0, 48, .inl (fun _ => 0)) := f93
  have f95 : h90 (421) = .inl (0, 300, .inl (fun _ => 0)) := (hk92 (421) (by omega)).trans f86
  have f96 : h90 (422) = .inl (0, 240, .inl (fun _ => 0)) := (hk92 (422) (by omega)).trans f87
  have f97 : h90 (420) = .inr (12, [.int 0, .long 0, .ref 421, .int 0, .int 0, .int 0, .int 0, .int 0, .int 0, .int 0, .int 0, .int 0, .int (-9), .ref 422, .null, .null, .null, .null, .null, .null, .null, .null, .null, .null, .null]) := (hk92 (420) (by omega)).trans f85
  have B98 : BT (2) (420) h90 := BT_kl B88 hk92 (by omega)
  have K99 : KL (420) h h90 := KL_tr (by omega) K89 hk92
  refine k_pc 14 (fs' := [.int 0, .long 0, .ref 421, .int 0, .int 0, .int 0, .int 0, .int 0, .int 0, .int 0, .int 0, .int 0, .int (-9), .ref 422, .ref 423, .null, .null, .null, .null, .null, .null, .null, .null, .null, .null]) rfl dX12_init_33 (by omega) (by omega) hW91 f97 (fp_X12_20 rfl rfl (by omega) _) (Nat.le_of_ble_eq_true rfl) rfl (fun h100 hW101 hk102 f103 => ?_)
  have f104 : h100 (421) = .inl (0, 300, .inl (fun _ => 0)) := (hk102 (421) (by omega)).trans f95
  have f105 : h100 (422) = .inl (0, 240, .inl (fun _ => 0)) := (hk102 (422) (by omega)).trans f96
  have f106 : h100 (423) = .inl (0, 48, .inl (fun _ => 0)) := (hk102 (423) (by omega)).trans f94
  have B107 : BT (2) (420) h100 := BT_kn B98 hk102 (by omega)
  have K108 : KL (420) h h100 := KL_kn (by omega) K99 hk102
  refine r_aload_n rfl dX12_init_36 rfl ?_
  refine r_bipush (v := 72) rfl dX12_init_37 (by decide) ?_
  refine r_bud (kc' := 9 + 1) (ks' := 669 + 72) (by omega) (by omega) ?_
  refine k_newa rfl dX12_init_39 hW101 (by decide) (by decide) (by decide) rfl lac_int (fun h109 hW110 hk111 f112 => ?_)
  have f113 : h109 (424) = .inl (0, 72, .inl (fun _ => 0)) := f112
  have f114 : h109 (421) = .inl (0, 300, .inl (fun _ => 0)) := (hk111 (421) (by omega)).trans f104
  have f115 : h109 (422) = .inl (0, 240, .inl (fun _ => 0)) := (hk111 (422) (by omega)).trans f105
  have f116 : h109 (423) = .inl (0, 48, .inl (fun _ => 0)) := (hk111 (423) (by omega)).trans f106
  have f117 : h109 (420) = .inr (12, [.int 0, .long 0, .ref 421, .int 0, .int 0, .int 0, .int 0, .int 0, .int 0, .int 0, .int 0, .int 0, .int (-9), .ref 422, .ref 423, .null, .null, .null, .null, .null, .null, .null, .null, .null, .null]) := (hk111 (420) (by omega)).trans f103
  have B118 : BT (2) (420) h109 := BT_kl B107 hk111 (by omega)
  have K119 : KL (420) h h109 := KL_tr (by omega) K108 hk111
  refine k_pc 15 (fs' := [.int 0, .long 0, .ref 421, .int 0, .int 0, .int 0, .int 0, .int 0, .int 0, .int 0, .int 0, .int 0, .int (-9), .ref 422, .ref 423, .ref 424, .null, .null, .null, .null, .null, .null, .null, .null, .null]) rfl dX12_init_41 (by omega) (by omega) hW110 f117 (fp_X12_23 rfl rfl (by omega) _) (Nat.le_of_ble_eq_true rfl) rfl (fun h120 hW121 hk122 f123 => ?_)
  have f124 : h120 (421) = .inl (0, 300, .inl (fun _ => 0)) := (hk122 (421) (by omega)).trans f114
  have f125 : h120 (422) = .inl (0, 240, .inl (fun _ => 0)) := (hk122 (422) (by omega)).trans f115
  have f126 : h120 (423) = .inl (0, 48, .inl (fun _ => 0)) := (hk122 (423) (by omega)).trans f116
  have f127 : h120 (424) = .inl (0, 72, .inl (fun _ => 0)) := (hk122 (424) (by omega)).trans f113
  have B128 : BT (2) (420) h120 := BT_kn B118 hk122 (by omega)
  have K129 : KL (420) h h120 := KL_kn (by omega) K119 hk122
  refine r_aload_n rfl dX12_init_44 rfl ?_
  refine r_sipush (v := 160) rfl dX12_init_45 (by decide) ?_
  refine r_bud (kc' := 8 + 1) (ks' := 509 + 160) (by omega) (by omega) ?_
  refine k_newa rfl dX12_init_48 hW121 (by decide) (by decide) (by decide) rfl lac_long (fun h130 hW131 hk132 f133 => ?_)
  have f134 : h130 (425) = .inl (1, 160, .inr (.inl (fun _ => 0))) := f133
  have f135 : h130 (421) = .inl (0, 300, .inl (fun _ => 0)) := (hk132 (421) (by omega)).trans f124
  have f136 : h130 (422) = .inl (0, 240, .inl (fun _ => 0)) := (hk132 (422) (by omega)).trans f125
  have f137 : h130 (423) = .inl (0, 48, .inl (fun _ => 0)) := (hk132 (423) (by omega)).trans f126
  have f138 : h130 (424) = .inl (0, 72, .inl (fun _ => 0)) := (hk132 (424) (by omega)).trans f127
  have f139 : h130 (420) = .inr (12, [.int 0, .long 0, .ref 421, .int 0, .int 0, .int 0, .int 0, .int 0, .int 0, .int 0, .int 0, .int 0, .int (-9), .ref 422, .ref 423, .ref 424, .null, .null, .null, .null, .null, .null, .null, .null, .null]) := (hk132 (420) (by omega)).trans f123
  have B140 : BT (2) (420) h130 := BT_kl B128 hk132 (by omega)
  have K141 : KL (420) h h130 := KL_tr (by omega) K129 hk132
  refine k_pc 16 (fs' := [.int 0, .long 0, .ref 421, .int 0, .int 0, .int 0, .int 0, .int 0, .int 0, .int 0, .int 0, .int 0, .int (-9), .ref 422, .ref 423, .ref 424, .ref 425, .null, .null, .null, .null, .null, .null, .null, .null]) rfl dX12_init_50 (by omega) (by omega) hW131 f139 (fp_X12_26 rfl rfl (by omega) _) (Nat.le_of_ble_eq_true rfl) rfl (fun h142 hW143 hk144 f145 => ?_)
  have f146 : h142 (421) = .inl (0, 300, .inl (fun _ => 0)) := (hk144 (421) (by omega)).trans f135
  have f147 : h142 (422) = .inl (0, 240, .inl (fun _ => 0)) := (hk144 (422) (by omega)).trans f136
  have f148 : h142 (423) = .inl (0, 48, .inl (fun _ => 0)) := (hk144 (423) (by omega)).trans f137
  have f149 : h142 (424) = .inl (0, 72, .inl (fun _ => 0)) := (hk144 (424) (by omega)).trans f138
  have f150 : h142 (425) = .inl (1, 160, .inr (.inl (fun _ => 0))) := (hk144 (425) (by omega)).trans f134
  have B151 : BT (2) (420) h142 := BT_kn B140 hk144 (by omega)
  have K152 : KL (420) h h142 := KL_kn (by omega) K141 hk144
  refine r_aload_n rfl dX12_init_53 rfl ?_
  refine r_sipush (v := 480) rfl dX12_init_54 (by decide) ?_
  refine r_bud (kc' := 7 + 1) (ks' := 29 + 480) (by omega) (by omega) ?_
  refine k_newa rfl dX12_init_57 hW143 (by decide) (by decide) (by decide) rfl lac_long (fun h153 hW154 hk155 f156 => ?_)
  have f157 : h153 (426) = .inl (1, 480, .inr (.inl (fun _ => 0))) := f156
  have f158 : h153 (421) = .inl (0, 300, .inl (fun _ => 0)) := (hk155 (421) (by omega)).trans f146
  have f159 : h153 (422) = .inl (0, 240, .inl (fun _ => 0)) := (hk155 (422) (by omega)).trans f147
  have f160 : h153 (423) = .inl (0, 48, .inl (fun _ => 0)) := (hk155 (423) (by omega)).trans f148
  have f161 : h153 (424) = .inl (0, 72, .inl (fun _ => 0)) := (hk155 (424) (by omega)).trans f149
  have f162 : h153 (425) = .inl (1, 160, .inr (.inl (fun _ => 0))) := (hk155 (425) (by omega)).trans f150
  have f163 : h153 (420) = .inr (12, [.int 0, .long 0, .ref 421, .int 0, .int 0, .int 0, .int 0, .int 0, .int 0, .int 0, .int 0, .int 0, .int (-9), .ref 422, .ref 423, .ref 424, .ref 425, .null, .null, .null, .null, .null, .null, .null, .null]) := (hk155 (420) (by omega)).trans f145
  have B164 : BT (2) (420) h153 := BT_kl B151 hk155 (by omega)
  have K165 : KL (420) h h153 := KL_tr (by omega) K152 hk155
  refine k_pc 17 (fs' := [.int 0, .long 0, .ref 421, .int 0, .int 0, .int 0, .int 0, .int 0, .int 0, .int 0, .int 0, .int 0, .int (-9), .ref 422, .ref 423, .ref 424, .ref 425, .ref 426, .null, .null, .null, .null, .null, .null, .null]) rfl dX12_init_59 (by omega) (by omega) hW154 f163 (fp_X12_30 rfl rfl (by omega) _) (Nat.le_of_ble_eq_true rfl) rfl (fun h166 hW167 hk168 f169 => ?_)
  have f170 : h166 (421) = .inl (0, 300, .inl (fun _ => 0)) := (hk168 (421) (by omega)).trans f158
  have f171 : h166 (422) = .inl (0, 240, .inl (fun _ => 0)) := (hk168 (422) (by omega)).trans f159
  have f172 : h166 (423) = .inl (0, 48, .inl (fun _ => 0)) := (hk168 (423) (by omega)).trans f160
  have f173 : h166 (424) = .inl (0, 72, .inl (fun _ => 0)) := (hk168 (424) (by omega)).trans f161
  have f174 : h166 (425) = .inl (1, 160, .inr (.inl (fun _ => 0))) := (hk168 (425) (by omega)).trans f162
  have f175 : h166 (426) = .inl (1, 480, .inr (.inl (fun _ => 0))) := (hk168 (426) (by omega)).trans f157
  have B176 : BT (2) (420) h166 := BT_kn B164 hk168 (by omega)
  have K177 : KL (420) h h166 := KL_kn (by omega) K165 hk168
  refine r_aload_n rfl dX12_init_62 rfl ?_
  refine r_iconst (v := 4) rfl dX12_init_63 (by decide) ?_
  refine r_bud (kc' := 6 + 1) (ks' := 25 + 4) (by omega) (by omega) ?_
  refine k_newa rfl dX12_init_64 hW167 (by decide) (by decide) (by decide) rfl lac_long (fun h178 hW179 hk180 f181 => ?_)
  have f182 : h178 (427) = .inl (1, 4, .inr (.inl (fun _ => 0))) := f181
  have f183 : h178 (421) = .inl (0, 300, .inl (fun _ => 0)) := (hk180 (421) (by omega)).trans f170
  have f184 : h178 (422) = .inl (0, 240, .inl (fun _ => 0)) := (hk180 (422) (by omega)).trans f171
  have f185 : h178 (423) = .inl (0, 48, .inl (fun _ => 0)) := (hk180 (423) (by omega)).trans f172
  have f186 : h178 (424) = .inl (0, 72, .inl (fun _ => 0)) := (hk180 (424) (by omega)).trans f173
  have f187 : h178 (425) = .inl (1, 160, .inr (.inl (fun _ => 0))) := (hk180 (425) (by omega)).trans f174
  have f188 : h178 (426) = .inl (1, 480, .inr (.inl (fun _ => 0))) := (hk180 (426) (by omega)).trans f175
  have f189 : h178 (420) = .inr (12, [.int 0, .long 0, .ref 421, .int 0, .int 0, .int 0, .int 0, .int 0, .int 0, .int 0, .int 0, .int 0, .int (-9), .ref 422, .ref 423, .ref 424, .ref 425, .ref 426, .null, .null, .null, .null, .null, .null, .null]) := (hk180 (420) (by omega)).trans f169
  have B190 : BT (2) (420) h178 := BT_kl B176 hk180 (by omega)
  have K191 : KL (420) h h178 := KL_tr (by omega) K177 hk180
  refine k_pc 18 (fs' := [.int 0, .long 0, .ref 421, .int 0, .int 0, .int 0, .int 0, .int 0, .int 0, .int 0, .int 0, .int 0, .int (-9), .ref 422, .ref 423, .ref 424, .ref 425, .ref 426, .ref 427, .null, .null, .null, .null, .null, .null]) rfl dX12_init_66 (by omega) (by omega) hW179 f189 (fp_X12_33 rfl rfl (by omega) _) (Nat.le_of_ble_eq_true rfl) rfl (fun h192 hW193 hk194 f195 => ?_)
  have f196 : h192 (421) = .inl (0, 300, .inl (fun _ => 0)) := (hk194 (421) (by omega)).trans f183
  have f197 : h192 (422) = .inl (0, 240, .inl (fun _ => 0)) := (hk194 (422) (by omega)).trans f184
  have f198 : h192 (423) = .inl (0, 48, .inl (fun _ => 0)) := (hk194 (423) (by omega)).trans f185
  have f199 : h192 (424) = .inl (0, 72, .inl (fun _ => 0)) := (hk194 (424) (by omega)).trans f186
  have f200 : h192 (425) = .inl (1, 160, .inr (.inl (fun _ => 0))) := (hk194 (425) (by omega)).trans f187
  have f201 : h192 (426) = .inl (1, 480, .inr (.inl (fun _ => 0))) := (hk194 (426) (by omega)).trans f188
  have f202 : h192 (427) = .inl (1, 4, .inr (.inl (fun _ => 0))) := (hk194 (427) (by omega)).trans f182
  have B203 : BT (2) (420) h192 := BT_kn B190 hk194 (by omega)
  have K204 : KL (420) h h192 := KL_kn (by omega) K191 hk194
  refine r_aload_n rfl dX12_init_69 rfl ?_
  refine r_iconst (v := 4) rfl dX12_init_70 (by decide) ?_
  refine r_bud (kc' := 5 + 1) (ks' := 21 + 4) (by omega) (by omega) ?_
  refine k_newa rfl dX12_init_71 hW193 (by decide) (by decide) (by decide) rfl lac_long (fun h205 hW206 hk207 f208 => ?_)
  have f209 : h205 (428) = .inl (1, 4, .inr (.inl (fun _ => 0))) := f208
  have f210 : h205 (421) = .inl (0, 300, .inl (fun _ => 0)) := (hk207 (421) (by omega)).trans f196
  have f211 : h205 (422) = .inl (0, 240, .inl (fun _ => 0)) := (hk207 (422) (by omega)).trans f197
  have f212 : h205 (423) = .inl (0, 48, .inl (fun _ => 0)) := (hk207 (423) (by omega)).trans f198
  have f213 : h205 (424) = .inl (0, 72, .inl (fun _ => 0)) := (hk207 (424) (by omega)).trans f199
  have f214 : h205 (425) = .inl (1, 160, .inr (.inl (fun _ => 0))) := (hk207 (425) (by omega)).trans f200
  have f215 : h205 (426) = .inl (1, 480, .inr (.inl (fun _ => 0))) := (hk207 (426) (by omega)).trans f201
  have f216 : h205 (427) = .inl (1, 4, .inr (.inl (fun _ => 0))) := (hk207 (427) (by omega)).trans f202
  have f217 : h205 (420) = .inr (12, [.int 0, .long 0, .ref 421, .int 0, .int 0, .int 0, .int 0, .int 0, .int 0, .int 0, .int 0, .int 0, .int (-9), .ref 422, .ref 423, .ref 424, .ref 425, .ref 426, .ref 427, .null, .null, .null, .null, .null, .null]) := (hk207 (420) (by omega)).trans f195
  have B218 : BT (2) (420) h205 := BT_kl B203 hk207 (by omega)
  have K219 : KL (420) h h205 := KL_tr (by omega) K204 hk207
  refine k_pc 19 (fs' := [.int 0, .long 0, .ref 421, .int 0, .int 0, .int 0, .int 0, .int 0, .int 0, .int 0, .int 0, .int 0, .int (-9), .ref 422, .ref 423, .ref 424, .ref 425, .ref 426, .ref 427, .ref 428, .null, .null, .null, .null, .null]) rfl dX12_init_73 (by omega) (by omega) hW206 f217 (fp_X12_36 rfl rfl (by omega) _) (Nat.le_of_ble_eq_true rfl) rfl (fun h220 hW221 hk222 f223 => ?_)
  have f224 : h220 (421) = .inl (0, 300, .inl (fun _ => 0)) := (hk222 (421) (by omega)).trans f210
  have f225 : h220 (422) = .inl (0, 240, .inl (fun _ => 0)) := (hk222 (422) (by omega)).trans f211
  have f226 : h220 (423) = .inl (0, 48, .inl (fun _ => 0)) := (hk222 (423) (by omega)).trans f212
  have f227 : h220 (424) = .inl (0, 72, .inl (fun _ => 0)) := (hk222 (424) (by omega)).trans f213
  have f228 : h220 (425) = .inl (1, 160, .inr (.inl (fun _ => 0))) := (hk222 (425) (by omega)).trans f214
  have f229 : h220 (426) = .inl (1, 480, .inr (.inl (fun _ => 0))) := (hk222 (426) (by omega)).trans f215
  have f230 : h220 (427) = .inl (1, 4, .inr (.inl (fun _ => 0))) := (hk222 (427) (by omega)).trans f216
  have f231 : h220 (428) = .inl (1, 4, .inr (.inl (fun _ => 0))) := (hk222 (428) (by omega)).trans f209
  have B232 : BT (2) (420) h220 := BT_kn B218 hk222 (by omega)
  have K233 : KL (420) h h220 := KL_kn (by omega) K219 hk222
  refine r_aload_n rfl dX12_init_76 rfl ?_
  refine r_iconst (v := 4) rfl dX12_init_77 (by decide) ?_
  refine r_bud (kc' := 4 + 1) (ks' := 17 + 4) (by omega) (by omega) ?_
  refine k_newa rfl dX12_init_78 hW221 (by decide) (by decide) (by decide) rfl lac_long (fun h234 hW235 hk236 f237 => ?_)
  have f238 : h234 (429) = .inl (1, 4, .inr (.inl (fun _ => 0))) := f237
  have f239 : h234 (421) = .inl (0, 300, .inl (fun _ => 0)) := (hk236 (421) (by omega)).trans f224
  have f240 : h234 (422) = .inl (0, 240, .inl (fun _ => 0)) := (hk236 (422) (by omega)).trans f225
  have f241 : h234 (423) = .inl (0, 48, .inl (fun _ => 0)) := (hk236 (423) (by omega)).trans f226
  have f242 : h234 (424) = .inl (0, 72, .inl (fun _ => 0)) := (hk236 (424) (by omega)).trans f227
  have f243 : h234 (425) = .inl (1, 160, .inr (.inl (fun _ => 0))) := (hk236 (425) (by omega)).trans f228
  have f244 : h234 (426) = .inl (1, 480, .inr (.inl (fun _ => 0))) := (hk236 (426) (by omega)).trans f229
  have f245 : h234 (427) = .inl (1, 4, .inr (.inl (fun _ => 0))) := (hk236 (427) (by omega)).trans f230
  have f246 : h234 (428) = .inl (1, 4, .inr (.inl (fun _ => 0))) := (hk236 (428) (by omega)).trans f231
  have f247 : h234 (420) = .inr (12, [.int 0, .long 0, .ref 421, .int 0, .int 0, .int 0, .int 0, .int 0, .int 0, .int 0, .int 0, .int 0, .int (-9), .ref 422, .ref 423, .ref 424, .ref 425, .ref 426, .ref 427, .ref 428, .null, .null, .null, .null, .null]) := (hk236 (420) (by omega)).trans f223
  have B248 : BT (2) (420) h234 := BT_kl B232 hk236 (by omega)
  have K249 : KL (420) h h234 := KL_tr (by omega) K233 hk236
  refine k_pc 20 (fs' := [.int 0, .long 0, .ref 421, .int 0, .int 0, .int 0, .int 0, .int 0, .int 0, .int 0, .int 0, .int 0, .int (-9), .ref 422, .ref 423, .ref 424, .ref 425, .ref 426, .ref 427, .ref 428, .ref 429, .null, .null, .null, .null]) rfl dX12_init_80 (by omega) (by omega) hW235 f247 (fp_X12_39 rfl rfl (by omega) _) (Nat.le_of_ble_eq_true rfl) rfl (fun h250 hW251 hk252 f253 => ?_)
  have f254 : h250 (421) = .inl (0, 300, .inl (fun _ => 0)) := (hk252 (421) (by omega)).trans f239
  have f255 : h250 (422) = .inl (0, 240, .inl (fun _ => 0)) := (hk252 (422) (by omega)).trans f240
  have f256 : h250 (423) = .inl (0, 48, .inl (fun _ => 0)) := (hk252 (423) (by omega)).trans f241
  have f257 : h250 (424) = .inl (0, 72, .inl (fun _ => 0)) := (hk252 (424) (by omega)).trans f242
  have f258 : h250 (425) = .inl (1, 160, .inr (.inl (fun _ => 0))) := (hk252 (425) (by omega)).trans f243
  have f259 : h250 (426) = .inl (1, 480, .inr (.inl (fun _ => 0))) := (hk252 (426) (by omega)).trans f244
  have f260 : h250 (427) = .inl (1, 4, .inr (.inl (fun _ => 0))) := (hk252 (427) (by omega)).trans f245
  have f261 : h250 (428) = .inl (1, 4, .inr (.inl (fun _ => 0))) := (hk252 (428) (by omega)).trans f246
  have f262 : h250 (429) = .inl (1, 4, .inr (.inl (fun _ => 0))) := (hk252 (429) (by omega)).trans f238
  have B263 : BT (2) (420) h250 := BT_kn B248 hk252 (by omega)
  have K264 : KL (420) h h250 := KL_kn (by omega) K249 hk252
  refine r_aload_n rfl dX12_init_83 rfl ?_
  refine r_iconst (v := 4) rfl dX12_init_84 (by decide) ?_
  refine r_bud (kc' := 3 + 1) (ks' := 13 + 4) (by omega) (by omega) ?_
  refine k_newa rfl dX12_init_85 hW251 (by decide) (by decide) (by decide) rfl lac_long (fun h265 hW266 hk267 f268 => ?_)
  have f269 : h265 (430) = .inl (1, 4, .inr (.inl (fun _ => 0))) := f268
  have f270 : h265 (421) = .inl (0, 300, .inl (fun _ => 0)) := (hk267 (421) (by omega)).trans f254
  have f271 : h265 (422) = .inl (0, 240, .inl (fun _ => 0)) := (hk267 (422) (by omega)).trans f255
  have f272 : h265 (423) = .inl (0, 48, .inl (fun _ => 0)) := (hk267 (423) (by omega)).trans f256
  have f273 : h265 (424) = .inl (0, 72, .inl (fun _ => 0)) := (hk267 (424) (by omega)).trans f257
  have f274 : h265 (425) = .inl (1, 160, .inr (.inl (fun _ => 0))) := (hk267 (425) (by omega)).trans f258
  have f275 : h265 (426) = .inl (1, 480, .inr (.inl (fun _ => 0))) := (hk267 (426) (by omega)).trans f259
  have f276 : h265 (427) = .inl (1, 4, .inr (.inl (fun _ => 0))) := (hk267 (427) (by omega)).trans f260
  have f277 : h265 (428) = .inl (1, 4, .inr (.inl (fun _ => 0))) := (hk267 (428) (by omega)).trans f261
  have f278 : h265 (429) = .inl (1, 4, .inr (.inl (fun _ => 0))) := (hk267 (429) (by omega)).trans f262
  have f279 : h265 (420) = .inr (12, [.int 0, .long 0, .ref 421, .int 0, .int 0, .int 0, .int 0, .int 0, .int 0, .int 0, .int 0, .int 0, .int (-9), .ref 422, .ref 423, .ref 424, .ref 425, .ref 426, .ref 427, .ref 428, .ref 429, .null, .null, .null, .null]) := (hk267 (420) (by omega)).trans f253
  have B280 : BT (2) (420) h265 := BT_kl B263 hk267 (by omega)
  have K281 : KL (420) h h265 := KL_tr (by omega) K264 hk267
  refine k_pc 21 (fs' := [.int 0, .long 0, .ref 421, .int 0, .int 0, .int 0, .int 0, .int 0, .int 0, .int 0, .int 0, .int 0, .int (-9), .ref 422, .ref 423, .ref 424, .ref 425, .ref 426, .ref 427, .ref 428, .ref 429, .ref 430, .null, .null, .null]) rfl dX12_init_87 (by omega) (by omega) hW266 f279 (fp_X12_42 rfl rfl (by omega) _) (Nat.le_of_ble_eq_true rfl) rfl (fun h282 hW283 hk284 f285 => ?_)
  have f286 : h282 (421) = .inl (0, 300, .inl (fun _ => 0)) := (hk284 (421) (by omega)).trans f270
  have f287 : h282 (422) = .inl (0, 240, .inl (fun _ => 0)) := (hk284 (422) (by omega)).trans f271
  have f288 : h282 (423) = .inl (0, 48, .inl (fun _ => 0)) := (hk284 (423) (by omega)).trans f272
  have f289 : h282 (424) = .inl (0, 72, .inl (fun _ => 0)) := (hk284 (424) (by omega)).trans f273
  have f290 : h282 (425) = .inl (1, 160, .inr (.inl (fun _ => 0))) := (hk284 (425) (by omega)).trans f274
  have f291 : h282 (426) = .inl (1, 480, .inr (.inl (fun _ => 0))) := (hk284 (426) (by omega)).trans f275
  have f292 : h282 (427) = .inl (1, 4, .inr (.inl (fun _ => 0))) := (hk284 (427) (by omega)).trans f276
  have f293 : h282 (428) = .inl (1, 4, .inr (.inl (fun _ => 0))) := (hk284 (428) (by omega)).trans f277
  have f294 : h282 (429) = .inl (1, 4, .inr (.inl (fun _ => 0))) := (hk284 (429) (by omega)).trans f278
  have f295 : h282 (430) = .inl (1, 4, .inr (.inl (fun _ => 0))) := (hk284 (430) (by omega)).trans f269
  have B296 : BT (2) (420) h282 := BT_kn B280 hk284 (by omega)
  have K297 : KL (420) h h282 := KL_kn (by omega) K281 hk284
  refine r_aload_n rfl dX12_init_90 rfl ?_
  refine r_iconst (v := 4) rfl dX12_init_91 (by decide) ?_
  refine r_bud (kc' := 2 + 1) (ks' := 9 + 4) (by omega) (by omega) ?_
  refine k_newa rfl dX12_init_92 hW283 (by decide) (by decide) (by decide) rfl lac_long (fun h298 hW299 hk300 f301 => ?_)
  have f302 : h298 (431) = .inl (1, 4, .inr (.inl (fun _ => 0))) := f301
  have f303 : h298 (421) = .inl (0, 300, .inl (fun _ => 0)) := (hk300 (421) (by omega)).trans f286
  have f304 : h298 (422) = .inl (0, 240, .inl (fun _ => 0)) := (hk300 (422) (by omega)).trans f287
  have f305 : h298 (423) = .inl (0, 48, .inl (fun _ => 0)) := (hk300 (423) (by omega)).trans f288
  have f306 : h298 (424) = .inl (0, 72, .inl (fun _ => 0)) := (hk300 (424) (by omega)).trans f289
  have f307 : h298 (425) = .inl (1, 160, .inr (.inl (fun _ => 0))) := (hk300 (425) (by omega)).trans f290
  have f308 : h298 (426) = .inl (1, 480, .inr (.inl (fun _ => 0))) := (hk300 (426) (by omega)).trans f291
  have f309 : h298 (427) = .inl (1, 4, .inr (.inl (fun _ => 0))) := (hk300 (427) (by omega)).trans f292
  have f310 : h298 (428) = .inl (1, 4, .inr (.inl (fun _ => 0))) := (hk300 (428) (by omega)).trans f293
  have f311 : h298 (429) = .inl (1, 4, .inr (.inl (fun _ => 0))) := (hk300 (429) (by omega)).trans f294
  have f312 : h298 (430) = .inl (1, 4, .inr (.inl (fun _ => 0))) := (hk300 (430) (by omega)).trans f295
  have f313 : h298 (420) = .inr (12, [.int 0, .long 0, .ref 421, .int 0, .int 0, .int 0, .int 0, .int 0, .int 0, .int 0, .int 0, .int 0, .int (-9), .ref 422, .ref 423, .ref 424, .ref 425, .ref 426, .ref 427, .ref 428, .ref 429, .ref 430, .null, .null, .null]) := (hk300 (420) (by omega)).trans f285
  have B314 : BT (2) (420) h298 := BT_kl B296 hk300 (by omega)
  have K315 : KL (420) h h298 := KL_tr (by omega) K297 hk300
  refine k_pc 22 (fs' := [.int 0, .long 0, .ref 421, .int 0, .int 0, .int 0, .int 0, .int 0, .int 0, .int 0, .int 0, .int 0, .int (-9), .ref 422, .ref 423, .ref 424, .ref 425, .ref 426, .ref 427, .ref 428, .ref 429, .ref 430, .ref 431, .null, .null]) rfl dX12_init_94 (by omega) (by omega) hW299 f313 (fp_X12_45 rfl rfl (by omega) _) (Nat.le_of_ble_eq_true rfl) rfl (fun h316 hW317 hk318 f319 => ?_)
  have f320 : h316 (421) = .inl (0, 300, .inl (fun _ => 0)) := (hk318 (421) (by omega)).trans f303
  have f321 : h316 (422) = .inl (0, 240, .inl (fun _ => 0)) := (hk318 (422) (by omega)).trans f304
  have f322 : h316 (423) = .inl (0, 48, .inl (fun _ => 0)) := (hk318 (423) (by omega)).trans f305
  have f323 : h316 (424) = .inl (0, 72, .inl (fun _ => 0)) := (hk318 (424) (by omega)).trans f306
  have f324 : h316 (425) = .inl (1, 160, .inr (.inl (fun _ => 0))) := (hk318 (425) (by omega)).trans f307
  have f325 : h316 (426) = .inl (1, 480, .inr (.inl (fun _ => 0))) := (hk318 (426) (by omega)).trans f308
  have f326 : h316 (427) = .inl (1, 4, .inr (.inl (fun _ => 0))) := (hk318 (427) (by omega)).trans f309
  have f327 : h316 (428) = .inl (1, 4, .inr (.inl (fun _ => 0))) := (hk318 (428) (by omega)).trans f310
  have f328 : h316 (429) = .inl (1, 4, .inr (.inl (fun _ => 0))) := (hk318 (429) (by omega)).trans f311
  have f329 : h316 (430) = .inl (1, 4, .inr (.inl (fun _ => 0))) := (hk318 (430) (by omega)).trans f312
  have f330 : h316 (431) = .inl (1, 4, .inr (.inl (fun _ => 0))) := (hk318 (431) (by omega)).trans f302
  have B331 : BT (2) (420) h316 := BT_kn B314 hk318 (by omega)
  have K332 : KL (420) h h316 := KL_kn (by omega) K315 hk318
  refine r_aload_n rfl dX12_init_97 rfl ?_
  refine r_iconst (v := 4) rfl dX12_init_98 (by decide) ?_
  refine r_bud (kc' := 1 + 1) (ks' := 5 + 4) (by omega) (by omega) ?_
  refine k_newa rfl dX12_init_99 hW317 (by decide) (by decide) (by decide) rfl lac_long (fun h333 hW334 hk335 f336 => ?_)
  have f337 : h333 (432) = .inl (1, 4, .inr (.inl (fun _ => 0))) := f336
  have f338 : h333 (421) = .inl (0, 300, .inl (fun _ => 0)) := (hk335 (421) (by omega)).trans f320
  have f339 : h333 (422) = .inl (0, 240, .inl (fun _ => 0)) := (hk335 (422) (by omega)).trans f321
  have f340 : h333 (423) = .inl (0, 48, .inl (fun _ => 0)) := (hk335 (423) (by omega)).trans f322
  have f341 : h333 (424) = .inl (0, 72, .inl (fun _ => 0)) := (hk335 (424) (by omega)).trans f323
  have f342 : h333 (425) = .inl (1, 160, .inr (.inl (fun _ => 0))) := (hk335 (425) (by omega)).trans f324
  have f343 : h333 (426) = .inl (1, 480, .inr (.inl (fun _ => 0))) := (hk335 (426) (by omega)).trans f325
  have f344 : h333 (427) = .inl (1, 4, .inr (.inl (fun _ => 0))) := (hk335 (427) (by omega)).trans f326
  have f345 : h333 (428) = .inl (1, 4, .inr (.inl (fun _ => 0))) := (hk335 (428) (by omega)).trans f327
  have f346 : h333 (429) = .inl (1, 4, .inr (.inl (fun _ => 0))) := (hk335 (429) (by omega)).trans f328
  have f347 : h333 (430) = .inl (1, 4, .inr (.inl (fun _ => 0))) := (hk335 (430) (by omega)).trans f329
  have f348 : h333 (431) = .inl (1, 4, .inr (.inl (fun _ => 0))) := (hk335 (431) (by omega)).trans f330
  have f349 : h333 (420) = .inr (12, [.int 0, .long 0, .ref 421, .int 0, .int 0, .int 0, .int 0, .int 0, .int 0, .int 0, .int 0, .int 0, .int (-9), .ref 422, .ref 423, .ref 424, .ref 425, .ref 426, .ref 427, .ref 428, .ref 429, .ref 430, .ref 431, .null, .null]) := (hk335 (420) (by omega)).trans f319
  have B350 : BT (2) (420) h333 := BT_kl B331 hk335 (by omega)
  have K351 : KL (420) h h333 := KL_tr (by omega) K332 hk335
  refine k_pc 23 (fs' := [.int 0, .long 0, .ref 421, .int 0, .int 0, .int 0, .int 0, .int 0, .int 0, .int 0, .int 0, .int 0, .int (-9), .ref 422, .ref 423, .ref 424, .ref 425, .ref 426, .ref 427, .ref 428, .ref 429, .ref 430, .ref 431, .ref 432, .null]) rfl dX12_init_101 (by omega) (by omega) hW334 f349 (fp_X12_48 rfl rfl (by omega) _) (Nat.le_of_ble_eq_true rfl) rfl (fun h352 hW353 hk354 f355 => ?_)
  have f356 : h352 (421) = .inl (0, 300, .inl (fun _ => 0)) := (hk354 (421) (by omega)).trans f338
  have f357 : h352 (422) = .inl (0, 240, .inl (fun _ => 0)) := (hk354 (422) (by omega)).trans f339
  have f358 : h352 (423) = .inl (0, 48, .inl (fun _ => 0)) := (hk354 (423) (by omega)).trans f340
  have f359 : h352 (424) = .inl (0, 72, .inl (fun _ => 0)) := (hk354 (424) (by omega)).trans f341
  have f360 : h352 (425) = .inl (1, 160, .inr (.inl (fun _ => 0))) := (hk354 (425) (by omega)).trans f342
  have f361 : h352 (426) = .inl (1, 480, .inr (.inl (fun _ => 0))) := (hk354 (426) (by omega)).trans f343
  have f362 : h352 (427) = .inl (1, 4, .inr (.inl (fun _ => 0))) := (hk354 (427) (by omega)).trans f344
  have f363 : h352 (428) = .inl (1, 4, .inr (.inl (fun _ => 0))) := (hk354 (428) (by omega)).trans f345
  have f364 : h352 (429) = .inl (1, 4, .inr (.inl (fun _ => 0))) := (hk354 (429) (by omega)).trans f346
  have f365 : h352 (430) = .inl (1, 4, .inr (.inl (fun _ => 0))) := (hk354 (430) (by omega)).trans f347
  have f366 : h352 (431) = .inl (1, 4, .inr (.inl (fun _ => 0))) := (hk354 (431) (by omega)).trans f348
  have f367 : h352 (432) = .inl (1, 4, .inr (.inl (fun _ => 0))) := (hk354 (432) (by omega)).trans f337
  have B368 : BT (2) (420) h352 := BT_kn B350 hk354 (by omega)
  have K369 : KL (420) h h352 := KL_kn (by omega) K351 hk354
  refine r_aload_n rfl dX12_init_104 rfl ?_
  refine r_iconst (v := 4) rfl dX12_init_105 (by decide) ?_
  refine r_bud (kc' := 0 + 1) (ks' := 1 + 4) (by omega) (by omega) ?_
  refine k_newa rfl dX12_init_106 hW353 (by decide) (by decide) (by decide) rfl lac_long (fun h370 hW371 hk372 f373 => ?_)
  have f374 : h370 (433) = .inl (1, 4, .inr (.inl (fun _ => 0))) := f373
  have f375 : h370 (421) = .inl (0, 300, .inl (fun _ => 0)) := (hk372 (421) (by omega)).trans f356
  have f376 : h370 (422) = .inl (0, 240, .inl (fun _ => 0)) := (hk372 (422) (by omega)).trans f357
  have f377 : h370 (423) = .inl (0, 48, .inl (fun _ => 0)) := (hk372 (423) (by omega)).trans f358
  have f378 : h370 (424) = .inl (0, 72, .inl (fun _ => 0)) := (hk372 (424) (by omega)).trans f359
  have f379 : h370 (425) = .inl (1, 160, .inr (.inl (fun _ => 0))) := (hk372 (425) (by omega)).trans f360
  have f380 : h370 (426) = .inl (1, 480, .inr (.inl (fun _ => 0))) := (hk372 (426) (by omega)).trans f361
  have f381 : h370 (427) = .inl (1, 4, .inr (.inl (fun _ => 0))) := (hk372 (427) (by omega)).trans f362
  have f382 : h370 (428) = .inl (1, 4, .inr (.inl (fun _ => 0))) := (hk372 (428) (by omega)).trans f363
  have f383 : h370 (429) = .inl (1, 4, .inr (.inl (fun _ => 0))) := (hk372 (429) (by omega)).trans f364
  have f384 : h370 (430) = .inl (1, 4, .inr (.inl (fun _ => 0))) := (hk372 (430) (by omega)).trans f365
  have f385 : h370 (431) = .inl (1, 4, .inr (.inl (fun _ => 0))) := (hk372 (431) (by omega)).trans f366
  have f386 : h370 (432) = .inl (1, 4, .inr (.inl (fun _ => 0))) := (hk372 (432) (by omega)).trans f367
  have f387 : h370 (420) = .inr (12, [.int 0, .long 0, .ref 421, .int 0, .int 0, .int 0, .int 0, .int 0, .int 0, .int 0, .int 0, .int 0, .int (-9), .ref 422, .ref 423, .ref 424, .ref 425, .ref 426, .ref 427, .ref 428, .ref 429, .ref 430, .ref 431, .ref 432, .null]) := (hk372 (420) (by omega)).trans f355
  have B388 : BT (2) (420) h370 := BT_kl B368 hk372 (by omega)
  have K389 : KL (420) h h370 := KL_tr (by omega) K369 hk372
  refine k_pc 24 (fs' := [.int 0, .long 0, .ref 421, .int 0, .int 0, .int 0, .int 0, .int 0, .int 0, .int 0, .int 0, .int 0, .int (-9), .ref 422, .ref 423, .ref 424, .ref 425, .ref 426, .ref 427, .ref 428, .ref 429, .ref 430, .ref 431, .ref 432, .ref 433]) rfl dX12_init_108 (by omega) (by omega) hW371 f387 (fp_X12_51 rfl rfl (by omega) _) (Nat.le_of_ble_eq_true rfl) rfl (fun h390 hW391 hk392 f393 => ?_)
  have f394 : h390 (421) = .inl (0, 300, .inl (fun _ => 0)) := (hk392 (421) (by omega)).trans f375
  have f395 : h390 (422) = .inl (0, 240, .inl (fun _ => 0)) := (hk392 (422) (by omega)).trans f376
  have f396 : h390 (423) = .inl (0, 48, .inl (fun _ => 0)) := (hk392 (423) (by omega)).trans f377
  have f397 : h390 (424) = .inl (0, 72, .inl (fun _ => 0)) := (hk392 (424) (by omega)).trans f378
  have f398 : h390 (425) = .inl (1, 160, .inr (.inl (fun _ => 0))) := (hk392 (425) (by omega)).trans f379
  have f399 : h390 (426) = .inl (1, 480, .inr (.inl (fun _ => 0))) := (hk392 (426) (by omega)).trans f380
  have f400 : h390 (427) = .inl (1, 4, .inr (.inl (fun _ => 0))) := (hk392 (427) (by omega)).trans f381
  have f401 : h390 (428) = .inl (1, 4, .inr (.inl (fun _ => 0))) := (hk392 (428) (by omega)).trans f382
  have f402 : h390 (429) = .inl (1, 4, .inr (.inl (fun _ => 0))) := (hk392 (429) (by omega)).trans f383
  have f403 : h390 (430) = .inl (1, 4, .inr (.inl (fun _ => 0))) := (hk392 (430) (by omega)).trans f384
  have f404 : h390 (431) = .inl (1, 4, .inr (.inl (fun _ => 0))) := (hk392 (431) (by omega)).trans f385
  have f405 : h390 (432) = .inl (1, 4, .inr (.inl (fun _ => 0))) := (hk392 (432) (by omega)).trans f386
  have f406 : h390 (433) = .inl (1, 4, .inr (.inl (fun _ => 0))) := (hk392 (433) (by omega)).trans f374
  have B407 : BT (2) (420) h390 := BT_kn B388 hk392 (by omega)
  have K408 : KL (420) h h390 := KL_kn (by omega) K389 hk392
  refine r_aload_n rfl dX12_init_111 rfl ?_
  have hSH : SH h390 := ⟨hW391, BT_jn B407 (BT_jn (BT_1 f393 ss_12) (BT_jn (BT_jn (BT_jn (BT_jn (BT_jn (BT_jn (BT_jn (BT_jn (BT_jn (BT_jn (BT_jn (BT_jn (BT_1 f394 (sse_rf _)) (BT_1 f395 (sse_rf _))) (BT_1 f396 (sse_rf _))) (BT_1 f397 (sse_rf _))) (BT_1 f398 (sse_rf _))) (BT_1 f399 (sse_rf _))) (BT_1 f400 (sse_rf _))) (BT_1 f401 (sse_rf _))) (BT_1 f402 (sse_rf _))) (BT_1 f403 (sse_rf _))) (BT_1 f404 (sse_rf _))) (BT_1 f405 (sse_rf _))) (BT_1 f406 (sse_rf _))))⟩
  refine cl_X12_54 rfl rfl dX12_init_112 (by decide) (by decide) f393 (Nat.le_of_ble_eq_true rfl) (s_X12_bounds (c := 0) (m := 0) hSH f393 (by decide) (by decide)) ?_
  rintro _ h409 _ ⟨rfl, hS410, hk411, rfl⟩
  exact r_ret dX12_init_115 (rt_v rfl) ⟨rfl, hS410, fun k z => (hk411 k (fun e => by simp at e; omega)).trans (K408 k z), (hk411 420 (by decide)).trans f393, (hk411 421 (by decide)).trans f394, rfl⟩
