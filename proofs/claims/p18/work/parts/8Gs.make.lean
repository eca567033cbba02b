set_option maxRecDepth 20000 in
set_option maxHeartbeats 1000000 in
theorem zz_X12_init {xs : Nat → Int32} {L d : Nat} {h : ev_H}  (hW : WTH h) (f0 : h 420 = .inr (12, [.int 0, .long 0, .null, .int 0, .int 0, .int 0, .int 0, .int 0, .int 0, .int 0, .int 0, .int 0, .int 0, .null, .null, .null, .null, .null, .null, .null, .null, .null, .null, .null, .null])) (hB : BT 2 420 h) : EV xs L (d + 3) (13) (1329) M_X12_init (421) h 0 [some (.ref 420)] [] (fun sz' h' r => sz' = 434 ∧ SH h' ∧ KL 420 h h' ∧ h' 420 = c420 0 0 0 0 0 0 0 0 0 0 0 (-9) ∧ h' 421 = c421 (fun _ => 0) ∧ h' 422 = cI 240 (fun _ => 0) ∧ BR (fun _ => 0) 0 0 h' ∧ r = []) := by
  refine r_aload_n rfl dX12_init_0 rfl ?_
  refine r_oinit rfl dX12_init_1 (Nat.succ_pos _) (Nat.le_of_ble_eq_true rfl) lo_X12 lk_oi lk_oc ?_
  refine r_aload_n rfl dX12_init_4 rfl ?_
  refine r_sipush (v := 300) rfl dX12_init_5 (by decide) ?_
  refine r_bud (kc' := 12 + 1) (ks' := 1029 + 300) (by omega) (by omega) ?_
  refine k_newa rfl dX12_init_8 hW (by decide) (by decide) (by decide) rfl lac_int (fun h51 hW52 hk53 f54 => ?_)
  have f55 : h51 (421) = .inl (0, 300, .inl (fun _ => 0)) := f54
  have f56 : h51 (420) = .inr (12, [.int 0, .long 0, .null, .int 0, .int 0, .int 0, .int 0, .int 0, .int 0, .int 0, .int 0, .int 0, .int 0, .null, .null, .null, .null, .null, .null, .null, .null, .null, .null, .null, .null]) := (hk53 (420) (by omega)).trans f0
  have B57 : BT (2) (420) h51 := BT_kl hB hk53 (by omega)
  have K58 : KL (420) h h51 := KL_tr (by omega) (KL_rf (420) h) hk53
  refine k_pc 2 (fs' := [.int 0, .long 0, .ref 421, .int 0, .int 0, .int 0, .int 0, .int 0, .int 0, .int 0, .int 0, .int 0, .int 0, .null, .null, .null, .null, .null, .null, .null, .null, .null, .null, .null, .null]) rfl dX12_init_10 (by omega) (by omega) hW52 f56 (fp_X12_7 rfl rfl (by omega) _) (Nat.le_of_ble_eq_true rfl) rfl (fun h59 hW60 hk61 f62 => ?_)
  have f63 : h59 (421) = .inl (0, 300, .inl (fun _ => 0)) := (hk61 (421) (by omega)).trans f55
  have B64 : BT (2) (420) h59 := BT_kn B57 hk61 (by omega)
  have K65 : KL (420) h h59 := KL_kn (by omega) K58 hk61
  refine r_aload_n rfl dX12_init_13 rfl ?_
  refine r_bipush (v := (-9)) rfl dX12_init_14 (by decide) ?_
  refine k_pc 12 (fs' := [.int 0, .long 0, .ref 421, .int 0, .int 0, .int 0, .int 0, .int 0, .int 0, .int 0, .int 0, .int 0, .int (-9), .null, .null, .null, .null, .null, .null, .null, .null, .null, .null, .null, .null]) rfl dX12_init_16 (by omega) (by omega) hW60 f62 (fp_X12_13 rfl _) (Nat.le_of_ble_eq_true rfl) rfl (fun h66 hW67 hk68 f69 => ?_)
  have f70 : h66 (421) = .inl (0, 300, .inl (fun _ => 0)) := (hk68 (421) (by omega)).trans f63
  have B71 : BT (2) (420) h66 := BT_kn B64 hk68 (by omega)
  have K72 : KL (420) h h66 := KL_kn (by omega) K65 hk68
  refine r_aload_n rfl dX12_init_19 rfl ?_
  refine r_sipush (v := 240) rfl dX12_init_20 (by decide) ?_
  refine r_bud (kc' := 11 + 1) (ks' := 789 + 240) (by omega) (by omega) ?_
  refine k_newa rfl dX12_init_23 hW67 (by decide) (by decide) (by decide) rfl lac_int (fun h73 hW74 hk75 f76 => ?_)
  have f77 : h73 (422) = .inl (0, 240, .inl (fun _ => 0)) := f76
  have f78 : h73 (421) = .inl (0, 300, .inl (fun _ => 0)) := (hk75 (421) (by omega)).trans f70
  have f79 : h73 (420) = .inr (12, [.int 0, .long 0, .ref 421, .int 0, .int 0, .int 0, .int 0, .int 0, .int 0, .int 0, .int 0, .int 0, .int (-9), .null, .null, .null, .null, .null, .null, .null, .null, .null, .null, .null, .null]) := (hk75 (420) (by omega)).trans f69
  have B80 : BT (2) (420) h73 := BT_kl B71 hk75 (by omega)
  have K81 : KL (420) h h73 := KL_tr (by omega) K72 hk75
  refine k_pc 13 (fs' := [.int 0, .long 0, .ref 421, .int 0, .int 0, .int 0, .int 0, .int 0, .int 0, .int 0, .int 0, .int 0, .int (-9), .ref 422, .null, .null, .null, .null, .null, .null, .null, .null, .null, .null, .null]) rfl dX12_init_25 (by omega) (by omega) hW74 f79 (fp_X12_17 rfl rfl (by omega) _) (Nat.le_of_ble_eq_true rfl) rfl (fun h82 hW83 hk84 f85 => ?_)
  have f86 : h82 (421) = .inl (0, 300, .inl (fun _ => 0)) := (hk84 (421) (by omega)).trans f78
  have f87 : h82 (422) = .inl (0, 240, .inl (fun _ => 0)) := (hk84 (422) (by omega)).trans f77
  have B88 : BT (2) (420) h82 := BT_kn B80 hk84 (by omega)
  have K89 : KL (420) h h82 := KL_kn (by omega) K81 hk84
  refine r_aload_n rfl dX12_init_28 rfl ?_
  refine r_bipush (v := 48) rfl dX12_init_29 (by decide) ?_
  refine r_bud (kc' := 10 + 1) (ks' := 741 + 48) (by omega) (by omega) ?_
  refine k_newa rfl dX12_init_31 hW83 (by decide) (by decide) (by decide) rfl lac_int (fun h90 hW91 hk92 f93 => ?_)
  have f94 : h90 (423) = .inl (0, 48, .inl (fun _ => 0)) := f93
  have f95 : h90 (421) = .inl (0, 300, .inl (fun _ => 0)) := (hk92 (421) (by omega)).trans f86
  have f96 : h90 (422) = .inl (0, 240, .inl (fun _ => 0)) := (hk92 (422) (by omega)).trans f87
  have f97 : h90 (420) = .inr (12, [.int 0, .long 0, .ref 421, .int 0, .int 0, .int 0, .int 0, .int 0, .int 0, .int 0, .int 0, .int 0, .int (-9), .ref 422, .null, .null, .null, .null, .null, .null, .null, .null, .null, .null, .null]) := (hk92 (420) (by omega)).trans f85
  have B98 : BT (2) (420) h90 := BT_kl B88 hk92 (by omega)
  have K99 : KL (420) h h90 := KL_tr (by omega) K89 hk92
  refine k_pc 14 (fs' := [.int 0, .long 0, .ref 421, .int 0, .int 0, .int 0, .int 0, .int 0, .int 0, .int 0, .int 0, .int 0, .int (-9), .ref 422, .ref 423, .null, .null, .null, .null, .null, .null, .null, .null, .null, .null]) rfl dX12_init_33 (by omega) (by omega) hW91 f97 (fp_X12_20 rfl rfl (by omega) _) (Nat.le_of_ble_eq_true rfl) rfl (fun h100 hW101 hk102 f103 => ?_)
  have f104 : h100 (421) = .inl (0, 300, .inl (fun _ => 0)) := (hk102 (421) (by omega)).trans f95
  have f105 : h100 (422) = .inl (0, 240, .inl (fun _ => 0)) := (hk102 (422) (by omega)).trans f96
  have f106 : h100 (423) = .inl (0, 48, .inl (fun _ => 0)) := (hk102 (423) (by omega)).trans f94
  have B107 : BT (2) (420) h100 := BT_kn B98 hk102 (by omega)
  have K108 : KL (420) h h100 := KL_kn (by omega) K99 hk102
  refine r_aload_n rfl dX12_init_36 rfl ?_
  refine r_bipush (v := 72) rfl dX12_init_37 (by decide) ?_
  refine r_bud (kc' := 9 + 1) (ks' := 669 + 72) (by omega) (by omega) ?_
  refine k_newa rfl dX12_init_39 hW101 (by decide) (by decide) (by decide) rfl lac_int (fun h109 hW110 hk111 f112 => ?_)
  have f113 : h109 (424) = .inl (0, 72, .inl (fun _ => 0)) := f112
  have f114 : h109 (421) = .inl (0, 300, .inl (fun _ => 0)) := (hk111 (421) (by omega)).trans f104
  have f115 : h109 (422) = .inl (0, 240, .inl (fun _ => 0)) := (hk111 (422) (by omega)).trans f105
  have f116 : h109 (423) = .inl (0, 48, .inl (fun _ => 0)) := (hk111 (423) (by omega)).trans f106
  have f117 : h109 (420) = .inr (12, [.int 0, .long 0, .ref 421, .int 0, .int 0, .int 0, .int 0, .int 0, .int 0, .int 0, .int 0, .int 0, .int (-9), .ref 422, .ref 423, .null, .null, .null, .null, .null, .null, .null, .null, .null, .null]) := (hk111 (420) (by omega)).trans f103
  have B118 : BT (2) (420) h109 := BT_kl B107 hk111 (by omega)
  have K119 : KL (420) h h109 := KL_tr (by omega) K108 hk111
  refine k_pc 15 (fs' := [.int 0, .long 0, .ref 421, .int 0, .int 0, .int 0, .int 0, .int 0, .int 0, .int 0, .int 0, .int 0, .int (-9), .ref 422, .ref 423, .ref 424, .null, .null, .null, .null, .null, .null, .null, .null, .null]) rfl dX12_init_41 (by omega) (by omega) hW110 f117 (fp_X12_23 rfl rfl (by omega) _) (Nat.le_of_ble_eq_true rfl) rfl (fun h120 hW121 hk122 f123 => ?_)
  have f124 : h120 (421) = .inl (0, 300, .inl (fun _ => 0)) := (hk122 (421) (by omega)).trans f114
  have f125 : h120 (422) = .inl (0, 240, .inl (fun _ => 0)) := (hk122 (422) (by omega)).trans f115
  have f126 : h120 (423) = .inl (0, 48, .inl (fun _ => 0)) := (hk122 (423) (by omega)).trans f116
  have f127 : h120 (424) = .inl (0, 72, .inl (fun _ => 0)) := (hk122 (424) (by omega)).trans f113
  have B128 : BT (2) (420) h120 := BT_kn B118 hk122 (by omega)
  have K129 : KL (420) h h120 := KL_kn (by omega) K119 hk122
  refine r_aload_n rfl dX12_init_44 rfl ?_
  refine r_sipush (v := 160) rfl dX12_init_45 (by decide) ?_
  refine r_bud (kc' := 8 + 1) (ks' := 509 + 160) (by omega) (by omega) ?_
  refine k_newa rfl dX12_init_48 hW121 (by decide) (by decide) (by decide) rfl lac_long (fun h130 hW131 hk132 f133 => ?_)
  have f134 : h130 (425) = .inl (1, 160, .inr (.inl (fun _ => 0))) := f133
  have f135 : h130 (421) = .inl (0, 300, .inl (fun _ => 0)) := (hk132 (421) (by omega)).trans f124
  have f136 : h130 (422) = .inl (0, 240, .inl (fun _ => 0)) := (hk132 (422) (by omega)).trans f125
  have f137 : h130 (423) = .inl (0, 48, .inl (fun _ => 0)) := (hk132 (423) (by omega)).trans f126
  have f138 : h130 (424) = .inl (0, 72, .inl (fun _ => 0)) := (hk132 (424) (by omega)).trans f127
  have f139 : h130 (420) = .inr (12, [.int 0, .long 0, .ref 421, .int 0, .int 0, .int 0, .int 0, .int 0, .int 0, .int 0, .int 0, .int 0, .int (-9), .ref 422, .ref 423, .ref 424, .null, .null, .null, .null, .null, .null, .null, .null, .null]) := (hk132 (420) (by omega)).trans f123
  have B140 : BT (2) (420) h130 := BT_kl B128 hk132 (by omega)
  have K141 : KL (420) h h130 := KL_tr (by omega) K129 hk132
  refine k_pc 16 (fs' := [.int 0, .long 0, .ref 421, .int 0, .int 0, .int 0, .int 0, .int 0, .int 0, .int 0, .int 0, .int 0, .int (-9), .ref 422, .ref 423, .ref 424, .ref 425, .null, .null, .null, .null, .null, .null, .null, .null]) rfl dX12_init_50 (by omega) (by omega) hW131 f139 (fp_X12_26 rfl rfl (by omega) _) (Nat.le_of_ble_eq_true rfl) rfl (fun h142 hW143 hk144 f145 => ?_)
  have f146 : h142 (421) = .inl (0, 300, .inl (fun _ => 0)) := (hk144 (421) (by omega)).trans f135
  have f147 : h142 (422) = .inl (0, 240, .inl (fun _ => 0)) := (hk144 (422) (by omega)).trans f136
  have f148 : h142 (423) = .inl (0, 48, .inl (fun _ => 0)) := (hk144 (423) (by omega)).trans f137
  have f149 : h142 (424) = .inl (0, 72, .inl (fun _ => 0)) := (hk144 (424) (by omega)).trans f138
  have f150 : h142 (425) = .inl (1, 160, .inr (.inl (fun _ => 0))) := (hk144 (425) (by omega)).trans f134
  have B151 : BT (2) (420) h142 := BT_kn B140 hk144 (by omega)
  have K152 : KL (420) h h142 := KL_kn (by omega) K141 hk144
  refine r_aload_n rfl dX12_init_53 rfl ?_
  refine r_sipush (v := 480) rfl dX12_init_54 (by decide) ?_
  refine r_bud (kc' := 7 + 1) (ks' := 29 + 480) (by omega) (by omega) ?_
  refine k_newa rfl dX12_init_57 hW143 (by decide) (by decide) (by decide) rfl lac_long (fun h153 hW154 hk155 f156 => ?_)
  have f157 : h153 (426) = .inl (1, 480, .inr (.inl (fun _ => 0))) := f156
  have f158 : h153 (421) = .inl (0, 300, .inl (fun _ => 0)) := (hk155 (421) (by omega)).trans f146
  have f159 : h153 (422) = .inl (0, 240, .inl (fun _ => 0)) := (hk155 (422) (by omega)).trans f147
  have f160 : h153 (423) = .inl (0, 48, .inl (fun _ => 0)) := (hk155 (423) (by omega)).trans f148
  have f161 : h153 (424) = .inl (0, 72, .inl (fun _ => 0)) := (hk155 (424) (by omega)).trans f149
  have f162 : h153 (425) = .inl (1, 160, .inr (.inl (fun _ => 0))) := (hk155 (425) (by omega)).trans f150
  have f163 : h153 (420) = .inr (12, [.int 0, .long 0, .ref 421, .int 0, .int 0, .int 0, .int 0, .int 0, .int 0, .int 0, .int 0, .int 0, .int (-9), .ref 422, .ref 423, .ref 424, .ref 425, .null, .null, .null, .null, .null, .null, .null, .null]) := (hk155 (420) (by omega)).trans f145
  have B164 : BT (2) (420) h153 := BT_kl B151 hk155 (by omega)
  have K165 : KL (420) h h153 := KL_tr (by omega) K152 hk155
  refine k_pc 17 (fs' := [.int 0, .long 0, .ref 421, .int 0, .int 0, .int 0, .int 0, .int 0, .int 0, .int 0, .int 0, .int 0, .int (-9), .ref 422, .ref 423, .ref 424, .ref 425, .ref 426, .null, .null, .null, .null, .null, .null, .null]) rfl dX12_init_59 (by omega) (by omega) hW154 f163 (fp_X12_30 rfl rfl (by omega) _) (Nat.le_of_ble_eq_true rfl) rfl (fun h166 hW167 hk168 f169 => ?_)
  have f170 : h166 (421) = .inl (0, 300, .inl (fun _ => 0)) := (hk168 (421) (by omega)).trans f158
  have f171 : h166 (422) = .inl (0, 240, .inl (fun _ => 0)) := (hk168 (422) (by omega)).trans f159
  have f172 : h166 (423) = .inl (0, 48, .inl (fun _ => 0)) := (hk168 (423) (by omega)).trans f160
  have f173 : h166 (424) = .inl (0, 72, .inl (fun _ => 0)) := (hk168 (424) (by omega)).trans f161
  have f174 : h166 (425) = .inl (1, 160, .inr (.inl (fun _ => 0))) := (hk168 (425) (by omega)).trans f162
  have f175 : h166 (426) = .inl (1, 480, .inr (.inl (fun _ => 0))) := (hk168 (426) (by omega)).trans f157
  have B176 : BT (2) (420) h166 := BT_kn B164 hk168 (by omega)
  have K177 : KL (420) h h166 := KL_kn (by omega) K165 hk168
  refine r_aload_n rfl dX12_init_62 rfl ?_
  refine r_iconst (v := 4) rfl dX12_init_63 (by decide) ?_
  refine r_bud (kc' := 6 + 1) (ks' := 25 + 4) (by omega) (by omega) ?_
  refine k_newa rfl dX12_init_64 hW167 (by decide) (by decide) (by decide) rfl lac_long (fun h178 hW179 hk180 f181 => ?_)
  have f182 : h178 (427) = .inl (1, 4, .inr (.inl (fun _ => 0))) := f181
  have f183 : h178 (421) = .inl (0, 300, .inl (fun _ => 0)) := (hk180 (421) (by omega)).trans f170
  have f184 : h178 (422) = .inl (0, 240, .inl (fun _ => 0)) := (hk180 (422) (by omega)).trans f171
  have f185 : h178 (423) = .inl (0, 48, .inl (fun _ => 0)) := (hk180 (423) (by omega)).trans f172
  have f186 : h178 (424) = .inl (0, 72, .inl (fun _ => 0)) := (hk180 (424) (by omega)).trans f173
  have f187 : h178 (425) = .inl (1, 160, .inr (.inl (fun _ => 0))) := (hk180 (425) (by omega)).trans f174
  have f188 : h178 (426) = .inl (1, 480, .inr (.inl (fun _ => 0))) := (hk180 (426) (by omega)).trans f175
  have f189 : h178 (420) = .inr (12, [.int 0, .long 0, .ref 421, .int 0, .int 0, .int 0, .int 0, .int 0, .int 0, .int 0, .int 0, .int 0, .int (-9), .ref 422, .ref 423, .ref 424, .ref 425, .ref 426, .null, .null, .null, .null, .null, .null, .null]) := (hk180 (420) (by omega)).trans f169
  have B190 : BT (2) (420) h178 := BT_kl B176 hk180 (by omega)
  have K191 : KL (420) h h178 := KL_tr (by omega) K177 hk180
  refine k_pc 18 (fs' := [.int 0, .long 0, .ref 421, .int 0, .int 0, .int 0, .int 0, .int 0, .int 0, .int 0, .int 0, .int 0, .int (-9), .ref 422, .ref 423, .ref 424, .ref 425, .ref 426, .ref 427, .null, .null, .null, .null, .null, .null]) rfl dX12_init_66 (by omega) (by omega) hW179 f189 (fp_X12_33 rfl rfl (by omega) _) (Nat.le_of_ble_eq_true rfl) rfl (fun h192 hW193 hk194 f195 => ?_)
  have f196 : h192 (421) = .inl (0, 300, .inl (fun _ => 0)) := (hk194 (421) (by omega)).trans f183
  have f197 : h192 (422) = .inl (0, 240, .inl (fun _ => 0)) := (hk194 (422) (by omega)).trans f184
  have f198 : h192 (423) = .inl (0, 48, .inl (fun _ => 0)) := (hk194 (423) (by omega)).trans f185
  have f199 : h192 (424) = .inl (0, 72, .inl (fun _ => 0)) := (hk194 (424) (by omega)).trans f186
  have f200 : h192 (425) = .inl (1, 160, .inr (.inl (fun _ => 0))) := (hk194 (425) (by omega)).trans f187
  have f201 : h192 (426) = .inl (1, 480, .inr (.inl (fun _ => 0))) := (hk194 (426) (by omega)).trans f188
  have f202 : h192 (427) = .inl (1, 4, .inr (.inl (fun _ => 0))) := (hk194 (427) (by omega)).trans f182
  have B203 : BT (2) (420) h192 := BT_kn B190 hk194 (by omega)
  have K204 : KL (420) h h192 := KL_kn (by omega) K191 hk194
  refine r_aload_n rfl dX12_init_69 rfl ?_
  refine r_iconst (v := 4) rfl dX12_init_70 (by decide) ?_
  refine r_bud (kc' := 5 + 1) (ks' := 21 + 4) (by omega) (by omega) ?_
  refine k_newa rfl dX12_init_71 hW193 (by decide) (by decide) (by decide) rfl lac_long (fun h205 hW206 hk207 f208 => ?_)
  have f209 : h205 (428) = .inl (1, 4, .inr (.inl (fun _ => 0))) := f208
  have f210 : h205 (421) = .inl (0, 300, .inl (fun _ => 0)) := (hk207 (421) (by omega)).trans f196
  have f211 : h205 (422) = .inl (0, 240, .inl (fun _ => 0)) := (hk207 (422) (by omega)).trans f197
  have f212 : h205 (423) = .inl (0, 48, .inl (fun _ => 0)) := (hk207 (423) (by omega)).trans f198
  have f213 : h205 (424) = .inl (0, 72, .inl (fun _ => 0)) := (hk207 (424) (by omega)).trans f199
  have f214 : h205 (425) = .inl (1, 160, .inr (.inl (fun _ => 0))) := (hk207 (425) (by omega)).trans f200
  have f215 : h205 (426) = .inl (1, 480, .inr (.inl (fun _ => 0))) := (hk207 (426) (by omega)).trans f201
  have f216 : h205 (427) = .inl (1, 4, .inr (.inl (fun _ => 0))) := (hk207 (427) (by omega)).trans f202
  have f217 : h205 (420) = .inr (12, [.int 0, .long 0, .ref 421, .int 0, .int 0, .int 0, .int 0, .int 0, .int 0, .int 0, .int 0, .int 0, .int (-9), .ref 422, .ref 423, .ref 424, .ref 425, .ref 426, .ref 427, .null, .null, .null, .null, .null, .null]) := (hk207 (420) (by omega)).trans f195
  have B218 : BT (2) (420) h205 := BT_kl B203 hk207 (by omega)
  have K219 : KL (420) h h205 := KL_tr (by omega) K204 hk207
  refine k_pc 19 (fs' := [.int 0, .long 0, .ref 421, .int 0, .int 0, .int 0, .int 0, .int 0, .int 0, .int 0, .int 0, .int 0, .int (-9), .ref 422, .ref 423, .ref 424, .ref 425, .ref 426, .ref 427, .ref 428, .null, .null, .null, .null, .null]) rfl dX12_init_73 (by omega) (by omega) hW206 f217 (fp_X12_36 rfl rfl (by omega) _) (Nat.le_of_ble_eq_true rfl) rfl (fun h220 hW221 hk222 f223 => ?_)
  have f224 : h220 (421) = .inl (0, 300, .inl (fun _ => 0)) := (hk222 (421) (by omega)).trans f210
  have f225 : h220 (422) = .inl (0, 240, .inl (fun _ => 0)) := (hk222 (422) (by omega)).trans f211
  have f226 : h220 (423) = .inl (0, 48, .inl (fun _ => 0)) := (hk222 (423) (by omega)).trans f212
  have f227 : h220 (424) = .inl (0, 72, .inl (fun _ => 0)) := (hk222 (424) (by omega)).trans f213
  have f228 : h220 (425) = .inl (1, 160, .inr (.inl (fun _ => 0))) := (hk222 (425) (by omega)).trans f214
  have f229 : h220 (426) = .inl (1, 480, .inr (.inl (fun _ => 0))) := (hk222 (426) (by omega)).trans f215
  have f230 : h220 (427) = .inl (1, 4, .inr (.inl (fun _ => 0))) := (hk222 (427) (by omega)).trans f216
  have f231 : h220 (428) = .inl (1, 4, .inr (.inl (fun _ => 0))) := (hk222 (428) (by omega)).trans f209
  have B232 : BT (2) (420) h220 := BT_kn B218 hk222 (by omega)
  have K233 : KL (420) h h220 := KL_kn (by omega) K219 hk222
  refine r_aload_n rfl dX12_init_76 rfl ?_
  refine r_iconst (v := 4) rfl dX12_init_77 (by decide) ?_
  refine r_bud (kc' := 4 + 1) (ks' := 17 + 4) (by omega) (by omega) ?_
  refine k_newa rfl dX12_init_78 hW221 (by decide) (by decide) (by decide) rfl lac_long (fun h234 hW235 hk236 f237 => ?_)
  have f238 : h234 (429) = .inl (1, 4, .inr (.inl (fun _ => 0))) := f237
  have f239 : h234 (421) = .inl (0, 300, .inl (fun _ => 0)) := (hk236 (421) (by omega)).trans f224
  have f240 : h234 (422) = .inl (0, 240, .inl (fun _ => 0)) := (hk236 (422) (by omega)).trans f225
  have f241 : h234 (423) = .inl (0, 48, .inl (fun _ => 0)) := (hk236 (423) (by omega)).trans f226
  have f242 : h234 (424) = .inl (0, 72, .inl (fun _ => 0)) := (hk236 (424) (by omega)).trans f227
  have f243 : h234 (425) = .inl (1, 160, .inr (.inl (fun _ => 0))) := (hk236 (425) (by omega)).trans f228
  have f244 : h234 (426) = .inl (1, 480, .inr (.inl (fun _ => 0))) := (hk236 (426) (by omega)).trans f229
  have f245 : h234 (427) = .inl (1, 4, .inr (.inl (fun _ => 0))) := (hk236 (427) (by omega)).trans f230
  have f246 : h234 (428) = .inl (1, 4, .inr (.inl (fun _ => 0))) := (hk236 (428) (by omega)).trans f231
  have f247 : h234 (420) = .inr (12, [.int 0, .long 0, .ref 421, .int 0, .int 0, .int 0, .int 0, .int 0, .int 0, .int 0, .int 0, .int 0, .int (-9), .ref 422, .ref 423, .ref 424, .ref 425, .ref 426, .ref 427, .ref 428, .null, .null, .null, .null, .null]) := (hk236 (420) (by omega)).trans f223
  have B248 : BT (2) (420) h234 := BT_kl B232 hk236 (by omega)
  have K249 : KL (420) h h234 := KL_tr (by omega) K233 hk236
  refine k_pc 20 (fs' := [.int 0, .long 0, .ref 421, .int 0, .int 0, .int 0, .int 0, .int 0, .int 0, .int 0, .int 0, .int 0, .int (-9), .ref 422, .ref 423, .ref 424, .ref 425, .ref 426, .ref 427, .ref 428, .ref 429, .null, .null, .null, .null]) rfl dX12_init_80 (by omega) (by omega) hW235 f247 (fp_X12_39 rfl rfl (by omega) _) (Nat.le_of_ble_eq_true rfl) rfl (fun h250 hW251 hk252 f253 => ?_)
  have f254 : h250 (421) = .inl (0, 300, .inl (fun _ => 0)) := (hk252 (421) (by omega)).trans f239
  have f255 : h250 (422) = .inl (0, 240, .inl (fun _ => 0)) := (hk252 (422) (by omega)).trans f240
  have f256 : h250 (423) = .inl (0, 48, .inl (fun _ => 0)) := (hk252 (423) (by omega)).trans f241
  have f257 : h250 (424) = .inl (0, 72, .inl (fun _ => 0)) := (hk252 (424) (by omega)).trans f242
  have f258 : h250 (425) = .inl (1, 160, .inr (.inl (fun _ => 0))) := (hk252 (425) (by omega)).trans f243
  have f259 : h250 (426) = .inl (1, 480, .inr (.inl (fun _ => 0))) := (hk252 (426) (by omega)).trans f244
  have f260 : h250 (427) = .inl (1, 4, .inr (.inl (fun _ => 0))) := (hk252 (427) (by omega)).trans f245
  have f261 : h250 (428) = .inl (1, 4, .inr (.inl (fun _ => 0))) := (hk252 (428) (by omega)).trans f246
  have f262 : h250 (429) = .inl (1, 4, .inr (.inl (fun _ => 0))) := (hk252 (429) (by omega)).trans f238
  have B263 : BT (2) (420) h250 := BT_kn B248 hk252 (by omega)
  have K264 : KL (420) h h250 := KL_kn (by omega) K249 hk252
  refine r_aload_n rfl dX12_init_83 rfl ?_
  refine r_iconst (v := 4) rfl dX12_init_84 (by decide) ?_
  refine r_bud (kc' := 3 + 1) (ks' := 13 + 4) (by omega) (by omega) ?_
  refine k_newa rfl dX12_init_85 hW251 (by decide) (by decide) (by decide) rfl lac_long (fun h265 hW266 hk267 f268 => ?_)
  have f269 : h265 (430) = .inl (1, 4, .inr (.inl (fun _ => 0))) := f268
  have f270 : h265 (421) = .inl (0, 300, .inl (fun _ => 0)) := (hk267 (421) (by omega)).trans f254
  have f271 : h265 (422) = .inl (0, 240, .inl (fun _ => 0)) := (hk267 (422) (by omega)).trans f255
  have f272 : h265 (423) = .inl (0, 48, .inl (fun _ => 0)) := (hk267 (423) (by omega)).trans f256
  have f273 : h265 (424) = .inl (0, 72, .inl (fun _ => 0)) := (hk267 (424) (by omega)).trans f257
  have f274 : h265 (425) = .inl (1, 160, .inr (.inl (fun _ => 0))) := (hk267 (425) (by omega)).trans f258
  have f275 : h265 (426) = .inl (1, 480, .inr (.inl (fun _ => 0))) := (hk267 (426) (by omega)).trans f259
  have f276 : h265 (427) = .inl (1, 4, .inr (.inl (fun _ => 0))) := (hk267 (427) (by omega)).trans f260
  have f277 : h265 (428) = .inl (1, 4, .inr (.inl (fun _ => 0))) := (hk267 (428) (by omega)).trans f261
  have f278 : h265 (429) = .inl (1, 4, .inr (.inl (fun _ => 0))) := (hk267 (429) (by omega)).trans f262
  have f279 : h265 (420) = .inr (12, [.int 0, .long 0, .ref 421, .int 0, .int 0, .int 0, .int 0, .int 0, .int 0, .int 0, .int 0, .int 0, .int (-9), .ref 422, .ref 423, .ref 424, .ref 425, .ref 426, .ref 427, .ref 428, .ref 429, .null, .null, .null, .null]) := (hk267 (420) (by omega)).trans f253
  have B280 : BT (2) (420) h265 := BT_kl B263 hk267 (by omega)
  have K281 : KL (420) h h265 := KL_tr (by omega) K264 hk267
  refine k_pc 21 (fs' := [.int 0, .long 0, .ref 421, .int 0, .int 0, .int 0, .int 0, .int 0, .int 0, .int 0, .int 0, .int 0, .int (-9), .ref 422, .ref 423, .ref 424, .ref 425, .ref 426, .ref 427, .ref 428, .ref 429, .ref 430, .null, .null, .null]) rfl dX12_init_87 (by omega) (by omega) hW266 f279 (fp_X12_42 rfl rfl (by omega) _) (Nat.le_of_ble_eq_true rfl) rfl (fun h282 hW283 hk284 f285 => ?_)
  have f286 : h282 (421) = .inl (0, 300, .inl (fun _ => 0)) := (hk284 (421) (by omega)).trans f270
  have f287 : h282 (422) = .inl (0, 240, .inl (fun _ => 0)) := (hk284 (422) (by omega)).trans f271
  have f288 : h282 (423) = .inl (0, 48, .inl (fun _ => 0)) := (hk284 (423) (by omega)).trans f272
  have f289 : h282 (424) = .inl (0, 72, .inl (fun _ => 0)) := (hk284 (424) (by omega)).trans f273
  have f290 : h282 (425) = .inl (1, 160, .inr (.inl (fun _ => 0))) := (hk284 (425) (by omega)).trans f274
  have f291 : h282 (426) = .inl (1, 480, .inr (.inl (fun _ => 0))) := (hk284 (426) (by omega)).trans f275
  have f292 : h282 (427) = .inl (1, 4, .inr (.inl (fun _ => 0))) := (hk284 (427) (by omega)).trans f276
  have f293 : h282 (428) = .inl (1, 4, .inr (.inl (fun _ => 0))) := (hk284 (428) (by omega)).trans f277
  have f294 : h282 (429) = .inl (1, 4, .inr (.inl (fun _ => 0))) := (hk284 (429) (by omega)).trans f278
  have f295 : h282 (430) = .inl (1, 4, .inr (.inl (fun _ => 0))) := (hk284 (430) (by omega)).trans f269
  have B296 : BT (2) (420) h282 := BT_kn B280 hk284 (by omega)
  have K297 : KL (420) h h282 := KL_kn (by omega) K281 hk284
  refine r_aload_n rfl dX12_init_90 rfl ?_
  refine r_iconst (v := 4) rfl dX12_init_91 (by decide) ?_
  refine r_bud (kc' := 2 + 1) (ks' := 9 + 4) (by omega) (by omega) ?_
  refine k_newa rfl dX12_init_92 hW283 (by decide) (by decide) (by decide) rfl lac_long (fun h298 hW299 hk300 f301 => ?_)
  have f302 : h298 (431) = .inl (1, 4, .inr (.inl (fun _ => 0))) := f301
  have f303 : h298 (421) = .inl (0, 300, .inl (fun _ => 0)) := (hk300 (421) (by omega)).trans f286
  have f304 : h298 (422) = .inl (0, 240, .inl (fun _ => 0)) := (hk300 (422) (by omega)).trans f287
  have f305 : h298 (423) = .inl (0, 48, .inl (fun _ => 0)) := (hk300 (423) (by omega)).trans f288
  have f306 : h298 (424) = .inl (0, 72, .inl (fun _ => 0)) := (hk300 (424) (by omega)).trans f289
  have f307 : h298 (425) = .inl (1, 160, .inr (.inl (fun _ => 0))) := (hk300 (425) (by omega)).trans f290
  have f308 : h298 (426) = .inl (1, 480, .inr (.inl (fun _ => 0))) := (hk300 (426) (by omega)).trans f291
  have f309 : h298 (427) = .inl (1, 4, .inr (.inl (fun _ => 0))) := (hk300 (427) (by omega)).trans f292
  have f310 : h298 (428) = .inl (1, 4, .inr (.inl (fun _ => 0))) := (hk300 (428) (by omega)).trans f293
  have f311 : h298 (429) = .inl (1, 4, .inr (.inl (fun _ => 0))) := (hk300 (429) (by omega)).trans f294
  have f312 : h298 (430) = .inl (1, 4, .inr (.inl (fun _ => 0))) := (hk300 (430) (by omega)).trans f295
  have f313 : h298 (420) = .inr (12, [.int 0, .long 0, .ref 421, .int 0, .int 0, .int 0, .int 0, .int 0, .int 0, .int 0, .int 0, .int 0, .int (-9), .ref 422, .ref 423, .ref 424, .ref 425, .ref 426, .ref 427, .ref 428, .ref 429, .ref 430, .null, .null, .null]) := (hk300 (420) (by omega)).trans f285
  have B314 : BT (2) (420) h298 := BT_kl B296 hk300 (by omega)
  have K315 : KL (420) h h298 := KL_tr (by omega) K297 hk300
  refine k_pc 22 (fs' := [.int 0, .long 0, .ref 421, .int 0, .int 0, .int 0, .int 0, .int 0, .int 0, .int 0, .int 0, .int 0, .int (-9), .ref 422, .ref 423, .ref 424, .ref 425, .ref 426, .ref 427, .ref 428, .ref 429, .ref 430, .ref 431, .null, .null]) rfl dX12_init_94 (by omega) (by omega) hW299 f313 (fp_X12_45 rfl rfl (by omega) _) (Nat.le_of_ble_eq_true rfl) rfl (fun h316 hW317 hk318 f319 => ?_)
  have f320 : h316 (421) = .inl (0, 300, .inl (fun _ => 0)) := (hk318 (421) (by omega)).trans f303
  have f321 : h316 (422) = .inl (0, 240, .inl (fun _ => 0)) := (hk318 (422) (by omega)).trans f304
  have f322 : h316 (423) = .inl (0, 48, .inl (fun _ => 0)) := (hk318 (423) (by omega)).trans f305
  have f323 : h316 (424) = .inl (0, 72, .inl (fun _ => 0)) := (hk318 (424) (by omega)).trans f306
  have f324 : h316 (425) = .inl (1, 160, .inr (.inl (fun _ => 0))) := (hk318 (425) (by omega)).trans f307
  have f325 : h316 (426) = .inl (1, 480, .inr (.inl (fun _ => 0))) := (hk318 (426) (by omega)).trans f308
  have f326 : h316 (427) = .inl (1, 4, .inr (.inl (fun _ => 0))) := (hk318 (427) (by omega)).trans f309
  have f327 : h316 (428) = .inl (1, 4, .inr (.inl (fun _ => 0))) := (hk318 (428) (by omega)).trans f310
  have f328 : h316 (429) = .inl (1, 4, .inr (.inl (fun _ => 0))) := (hk318 (429) (by omega)).trans f311
  have f329 : h316 (430) = .inl (1, 4, .inr (.inl (fun _ => 0))) := (hk318 (430) (by omega)).trans f312
  have f330 : h316 (431) = .inl (1, 4, .inr (.inl (fun _ => 0))) := (hk318 (431) (by omega)).trans f302
  have B331 : BT (2) (420) h316 := BT_kn B314 hk318 (by omega)
  have K332 : KL (420) h h316 := KL_kn (by omega) K315 hk318
  refine r_aload_n rfl dX12_init_97 rfl ?_
  refine r_iconst (v := 4) rfl dX12_init_98 (by decide) ?_
  refine r_bud (kc' := 1 + 1) (ks' := 5 + 4) (by omega) (by omega) ?_
  refine k_newa rfl dX12_init_99 hW317 (by decide) (by decide) (by decide) rfl lac_long (fun h333 hW334 hk335 f336 => ?_)
  have f337 : h333 (432) = .inl (1, 4, .inr (.inl (fun _ => 0))) := f336
  have f338 : h333 (421) = .inl (0, 300, .inl (fun _ => 0)) := (hk335 (421) (by omega)).trans f320
  have f339 : h333 (422) = .inl (0, 240, .inl (fun _ => 0)) := (hk335 (422) (by omega)).trans f321
  have f340 : h333 (423) = .inl (0, 48, .inl (fun _ => 0)) := (hk335 (423) (by omega)).trans f322
  have f341 : h333 (424) = .inl (0, 72, .inl (fun _ => 0)) := (hk335 (424) (by omega)).trans f323
  have f342 : h333 (425) = .inl (1, 160, .inr (.inl (fun _ => 0))) := (hk335 (425) (by omega)).trans f324
  have f343 : h333 (426) = .inl (1, 480, .inr (.inl (fun _ => 0))) := (hk335 (426) (by omega)).trans f325
  have f344 : h333 (427) = .inl (1, 4, .inr (.inl (fun _ => 0))) := (hk335 (427) (by omega)).trans f326
  have f345 : h333 (428) = .inl (1, 4, .inr (.inl (fun _ => 0))) := (hk335 (428) (by omega)).trans f327
  have f346 : h333 (429) = .inl (1, 4, .inr (.inl (fun _ => 0))) := (hk335 (429) (by omega)).trans f328
  have f347 : h333 (430) = .inl (1, 4, .inr (.inl (fun _ => 0))) := (hk335 (430) (by omega)).trans f329
  have f348 : h333 (431) = .inl (1, 4, .inr (.inl (fun _ => 0))) := (hk335 (431) (by omega)).trans f330
  have f349 : h333 (420) = .inr (12, [.int 0, .long 0, .ref 421, .int 0, .int 0, .int 0, .int 0, .int 0, .int 0, .int 0, .int 0, .int 0, .int (-9), .ref 422, .ref 423, .ref 424, .ref 425, .ref 426, .ref 427, .ref 428, .ref 429, .ref 430, .ref 431, .null, .null]) := (hk335 (420) (by omega)).trans f319
  have B350 : BT (2) (420) h333 := BT_kl B331 hk335 (by omega)
  have K351 : KL (420) h h333 := KL_tr (by omega) K332 hk335
  refine k_pc 23 (fs' := [.int 0, .long 0, .ref 421, .int 0, .int 0, .int 0, .int 0, .int 0, .int 0, .int 0, .int 0, .int 0, .int (-9), .ref 422, .ref 423, .ref 424, .ref 425, .ref 426, .ref 427, .ref 428, .ref 429, .ref 430, .ref 431, .ref 432, .null]) rfl dX12_init_101 (by omega) (by omega) hW334 f349 (fp_X12_48 rfl rfl (by omega) _) (Nat.le_of_ble_eq_true rfl) rfl (fun h352 hW353 hk354 f355 => ?_)
  have f356 : h352 (421) = .inl (0, 300, .inl (fun _ => 0)) := (hk354 (421) (by omega)).trans f338
  have f357 : h352 (422) = .inl (0, 240, .inl (fun _ => 0)) := (hk354 (422) (by omega)).trans f339
  have f358 : h352 (423) = .inl (0, 48, .inl (fun _ => 0)) := (hk354 (423) (by omega)).trans f340
  have f359 : h352 (424) = .inl (0, 72, .inl (fun _ => 0)) := (hk354 (424) (by omega)).trans f341
  have f360 : h352 (425) = .inl (1, 160, .inr (.inl (fun _ => 0))) := (hk354 (425) (by omega)).trans f342
  have f361 : h352 (426) = .inl (1, 480, .inr (.inl (fun _ => 0))) := (hk354 (426) (by omega)).trans f343
  have f362 : h352 (427) = .inl (1, 4, .inr (.inl (fun _ => 0))) := (hk354 (427) (by omega)).trans f344
  have f363 : h352 (428) = .inl (1, 4, .inr (.inl (fun _ => 0))) := (hk354 (428) (by omega)).trans f345
  have f364 : h352 (429) = .inl (1, 4, .inr (.inl (fun _ => 0))) := (hk354 (429) (by omega)).trans f346
  have f365 : h352 (430) = .inl (1, 4, .inr (.inl (fun _ => 0))) := (hk354 (430) (by omega)).trans f347
  have f366 : h352 (431) = .inl (1, 4, .inr (.inl (fun _ => 0))) := (hk354 (431) (by omega)).trans f348
  have f367 : h352 (432) = .inl (1, 4, .inr (.inl (fun _ => 0))) := (hk354 (432) (by omega)).trans f337
  have B368 : BT (2) (420) h352 := BT_kn B350 hk354 (by omega)
  have K369 : KL (420) h h352 := KL_kn (by omega) K351 hk354
  refine r_aload_n rfl dX12_init_104 rfl ?_
  refine r_iconst (v := 4) rfl dX12_init_105 (by decide) ?_
  refine r_bud (kc' := 0 + 1) (ks' := 1 + 4) (by omega) (by omega) ?_
  refine k_newa rfl dX12_init_106 hW353 (by decide) (by decide) (by decide) rfl lac_long (fun h370 hW371 hk372 f373 => ?_)
  have f374 : h370 (433) = .inl (1, 4, .inr (.inl (fun _ => 0))) := f373
  have f375 : h370 (421) = .inl (0, 300, .inl (fun _ => 0)) := (hk372 (421) (by omega)).trans f356
  have f376 : h370 (422) = .inl (0, 240, .inl (fun _ => 0)) := (hk372 (422) (by omega)).trans f357
  have f377 : h370 (423) = .inl (0, 48, .inl (fun _ => 0)) := (hk372 (423) (by omega)).trans f358
  have f378 : h370 (424) = .inl (0, 72, .inl (fun _ => 0)) := (hk372 (424) (by omega)).trans f359
  have f379 : h370 (425) = .inl (1, 160, .inr (.inl (fun _ => 0))) := (hk372 (425) (by omega)).trans f360
  have f380 : h370 (426) = .inl (1, 480, .inr (.inl (fun _ => 0))) := (hk372 (426) (by omega)).trans f361
  have f381 : h370 (427) = .inl (1, 4, .inr (.inl (fun _ => 0))) := (hk372 (427) (by omega)).trans f362
  have f382 : h370 (428) = .inl (1, 4, .inr (.inl (fun _ => 0))) := (hk372 (428) (by omega)).trans f363
  have f383 : h370 (429) = .inl (1, 4, .inr (.inl (fun _ => 0))) := (hk372 (429) (by omega)).trans f364
  have f384 : h370 (430) = .inl (1, 4, .inr (.inl (fun _ => 0))) := (hk372 (430) (by omega)).trans f365
  have f385 : h370 (431) = .inl (1, 4, .inr (.inl (fun _ => 0))) := (hk372 (431) (by omega)).trans f366
  have f386 : h370 (432) = .inl (1, 4, .inr (.inl (fun _ => 0))) := (hk372 (432) (by omega)).trans f367
  have f387 : h370 (420) = .inr (12, [.int 0, .long 0, .ref 421, .int 0, .int 0, .int 0, .int 0, .int 0, .int 0, .int 0, .int 0, .int 0, .int (-9), .ref 422, .ref 423, .ref 424, .ref 425, .ref 426, .ref 427, .ref 428, .ref 429, .ref 430, .ref 431, .ref 432, .null]) := (hk372 (420) (by omega)).trans f355
  have B388 : BT (2) (420) h370 := BT_kl B368 hk372 (by omega)
  have K389 : KL (420) h h370 := KL_tr (by omega) K369 hk372
  refine k_pc 24 (fs' := [.int 0, .long 0, .ref 421, .int 0, .int 0, .int 0, .int 0, .int 0, .int 0, .int 0, .int 0, .int 0, .int (-9), .ref 422, .ref 423, .ref 424, .ref 425, .ref 426, .ref 427, .ref 428, .ref 429, .ref 430, .ref 431, .ref 432, .ref 433]) rfl dX12_init_108 (by omega) (by omega) hW371 f387 (fp_X12_51 rfl rfl (by omega) _) (Nat.le_of_ble_eq_true rfl) rfl (fun h390 hW391 hk392 f393 => ?_)
  have f394 : h390 (421) = .inl (0, 300, .inl (fun _ => 0)) := (hk392 (421) (by omega)).trans f375
  have f395 : h390 (422) = .inl (0, 240, .inl (fun _ => 0)) := (hk392 (422) (by omega)).trans f376
  have f396 : h390 (423) = .inl (0, 48, .inl (fun _ => 0)) := (hk392 (423) (by omega)).trans f377
  have f397 : h390 (424) = .inl (0, 72, .inl (fun _ => 0)) := (hk392 (424) (by omega)).trans f378
  have f398 : h390 (425) = .inl (1, 160, .inr (.inl (fun _ => 0))) := (hk392 (425) (by omega)).trans f379
  have f399 : h390 (426) = .inl (1, 480, .inr (.inl (fun _ => 0))) := (hk392 (426) (by omega)).trans f380
  have f400 : h390 (427) = .inl (1, 4, .inr (.inl (fun _ => 0))) := (hk392 (427) (by omega)).trans f381
  have f401 : h390 (428) = .inl (1, 4, .inr (.inl (fun _ => 0))) := (hk392 (428) (by omega)).trans f382
  have f402 : h390 (429) = .inl (1, 4, .inr (.inl (fun _ => 0))) := (hk392 (429) (by omega)).trans f383
  have f403 : h390 (430) = .inl (1, 4, .inr (.inl (fun _ => 0))) := (hk392 (430) (by omega)).trans f384
  have f404 : h390 (431) = .inl (1, 4, .inr (.inl (fun _ => 0))) := (hk392 (431) (by omega)).trans f385
  have f405 : h390 (432) = .inl (1, 4, .inr (.inl (fun _ => 0))) := (hk392 (432) (by omega)).trans f386
  have f406 : h390 (433) = .inl (1, 4, .inr (.inl (fun _ => 0))) := (hk392 (433) (by omega)).trans f374
  have B407 : BT (2) (420) h390 := BT_kn B388 hk392 (by omega)
  have K408 : KL (420) h h390 := KL_kn (by omega) K389 hk392
  refine r_aload_n rfl dX12_init_111 rfl ?_
  have hSH : SH h390 := ⟨hW391, BT_jn B407 (BT_jn (BT_1 f393 ss_12) (BT_jn (BT_jn (BT_jn (BT_jn (BT_jn (BT_jn (BT_jn (BT_jn (BT_jn (BT_jn (BT_jn (BT_jn (BT_1 f394 (sse_rf _)) (BT_1 f395 (sse_rf _))) (BT_1 f396 (sse_rf _))) (BT_1 f397 (sse_rf _))) (BT_1 f398 (sse_rf _))) (BT_1 f399 (sse_rf _))) (BT_1 f400 (sse_rf _))) (BT_1 f401 (sse_rf _))) (BT_1 f402 (sse_rf _))) (BT_1 f403 (sse_rf _))) (BT_1 f404 (sse_rf _))) (BT_1 f405 (sse_rf _))) (BT_1 f406 (sse_rf _))))⟩
  refine cl_X12_54 rfl rfl dX12_init_112 (by decide) (by decide) f393 (Nat.le_of_ble_eq_true rfl) (z_X12_bounds (c := 0) (m := 0) (l := 0) (G := fun _ => 0) (H := fun _ => 0) hSH (by decide) (by decide) (by decide) (fun i hi => absurd hi (by omega)) (by decide) f393 f395 f398 f400 f401 f402 f403) ?_
  rintro _ h409 _ ⟨rfl, hS410, hk411, br412, rfl⟩
  exact r_ret dX12_init_115 (rt_v rfl) ⟨rfl, hS410, fun k z => (hk411 k (fun e => by simp at e; omega)).trans (K408 k z), (hk411 420 (by decide)).trans f393, (hk411 421 (by decide)).trans f394, (hk411 422 (by decide)).trans f395, br412, rfl⟩
