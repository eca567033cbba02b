theorem dX8_readWord_0 : decode cX8_readWord 0 = .ok (.iconst 0, 1) := by decide +kernel
theorem dX8_readWord_1 : decode cX8_readWord 1 = .ok (.istore_n 1, 1) := by decide +kernel
theorem dX8_readWord_2 : decode cX8_readWord 2 = .ok (.aload_n 0, 1) := by decide +kernel
theorem dX8_readWord_3 : decode cX8_readWord 3 = .ok (.getfield 28, 3) := by decide +kernel
theorem dX8_readWord_6 : decode cX8_readWord 6 = .ok (.aload_n 0, 1) := by decide +kernel
theorem dX8_readWord_7 : decode cX8_readWord 7 = .ok (.getfield 15, 3) := by decide +kernel
theorem dX8_readWord_10 : decode cX8_readWord 10 = .ok (.if_icmp .ge 44, 3) := by decide +kernel
theorem dX8_readWord_13 : decode cX8_readWord 13 = .ok (.aload_n 0, 1) := by decide +kernel
theorem dX8_readWord_14 : decode cX8_readWord 14 = .ok (.aload_n 0, 1) := by decide +kernel
theorem dX8_readWord_15 : decode cX8_readWord 15 = .ok (.getfield 28, 3) := by decide +kernel
theorem dX8_readWord_18 : decode cX8_readWord 18 = .ok (.invokevirtual 37, 3) := by decide +kernel
theorem dX8_readWord_21 : decode cX8_readWord 21 = .ok (.invokestatic 41, 3) := by decide +kernel
theorem dX8_readWord_24 : decode cX8_readWord 24 = .ok (.ifCond .eq 30, 3) := by decide +kernel
theorem dX8_readWord_27 : decode cX8_readWord 27 = .ok (.iload_n 1, 1) := by decide +kernel
theorem dX8_readWord_28 : decode cX8_readWord 28 = .ok (.bipush 8, 2) := by decide +kernel
theorem dX8_readWord_30 : decode cX8_readWord 30 = .ok (.ishl, 1) := by decide +kernel
theorem dX8_readWord_31 : decode cX8_readWord 31 = .ok (.aload_n 0, 1) := by decide +kernel
theorem dX8_readWord_32 : decode cX8_readWord 32 = .ok (.aload_n 0, 1) := by decide +kernel
theorem dX8_readWord_33 : decode cX8_readWord 33 = .ok (.getfield 28, 3) := by decide +kernel
theorem dX8_readWord_36 : decode cX8_readWord 36 = .ok (.invokevirtual 37, 3) := by decide +kernel
theorem dX8_readWord_39 : decode cX8_readWord 39 = .ok (.ior, 1) := by decide +kernel
theorem dX8_readWord_40 : decode cX8_readWord 40 = .ok (.istore_n 1, 1) := by decide +kernel
theorem dX8_readWord_41 : decode cX8_readWord 41 = .ok (.aload_n 0, 1) := by decide +kernel
theorem dX8_readWord_42 : decode cX8_readWord 42 = .ok (.dup, 1) := by decide +kernel
theorem dX8_readWord_43 : decode cX8_readWord 43 = .ok (.getfield 28, 3) := by decide +kernel
theorem dX8_readWord_46 : decode cX8_readWord 46 = .ok (.iconst 1, 1) := by decide +kernel
theorem dX8_readWord_47 : decode cX8_readWord 47 = .ok (.iadd, 1) := by decide +kernel
theorem dX8_readWord_48 : decode cX8_readWord 48 = .ok (.putfield 28, 3) := by decide +kernel
theorem dX8_readWord_51 : decode cX8_readWord 51 = .ok (.goto (-49), 3) := by decide +kernel
theorem dX8_readWord_54 : decode cX8_readWord 54 = .ok (.aload_n 0, 1) := by decide +kernel
theorem dX8_readWord_55 : decode cX8_readWord 55 = .ok (.getfield 28, 3) := by decide +kernel
theorem dX8_readWord_58 : decode cX8_readWord 58 = .ok (.aload_n 0, 1) := by decide +kernel
theorem dX8_readWord_59 : decode cX8_readWord 59 = .ok (.getfield 25, 3) := by decide +kernel
theorem dX8_readWord_62 : decode cX8_readWord 62 = .ok (.isub, 1) := by decide +kernel
theorem dX8_readWord_63 : decode cX8_readWord 63 = .ok (.istore_n 2, 1) := by decide +kernel
theorem dX8_readWord_64 : decode cX8_readWord 64 = .ok (.aload_n 0, 1) := by decide +kernel
theorem dX8_readWord_65 : decode cX8_readWord 65 = .ok (.bipush 7, 2) := by decide +kernel
theorem dX8_readWord_67 : decode cX8_readWord 67 = .ok (.putfield 19, 3) := by decide +kernel
theorem dX8_readWord_70 : decode cX8_readWord 70 = .ok (.iload_n 2, 1) := by decide +kernel
theorem dX8_readWord_71 : decode cX8_readWord 71 = .ok (.iconst 1, 1) := by decide +kernel
theorem dX8_readWord_72 : decode cX8_readWord 72 = .ok (.if_icmp .ne 28, 3) := by decide +kernel
theorem dX8_readWord_75 : decode cX8_readWord 75 = .ok (.iload_n 1, 1) := by decide +kernel
theorem dX8_readWord_76 : decode cX8_readWord 76 = .ok (.bipush 97, 2) := by decide +kernel
theorem dX8_readWord_78 : decode cX8_readWord 78 = .ok (.isub, 1) := by decide +kernel
theorem dX8_readWord_79 : decode cX8_readWord 79 = .ok (.bipush 8, 2) := by decide +kernel
theorem dX8_readWord_81 : decode cX8_readWord 81 = .ok (.if_icmp .ge 19, 3) := by decide +kernel
theorem dX8_readWord_84 : decode cX8_readWord 84 = .ok (.aload_n 0, 1) := by decide +kernel
theorem dX8_readWord_85 : decode cX8_readWord 85 = .ok (.iconst 3, 1) := by decide +kernel
theorem dX8_readWord_86 : decode cX8_readWord 86 = .ok (.putfield 19, 3) := by decide +kernel
theorem dX8_readWord_89 : decode cX8_readWord 89 = .ok (.aload_n 0, 1) := by decide +kernel
theorem dX8_readWord_90 : decode cX8_readWord 90 = .ok (.iload_n 1, 1) := by decide +kernel
theorem dX8_readWord_91 : decode cX8_readWord 91 = .ok (.bipush 97, 2) := by decide +kernel
theorem dX8_readWord_93 : decode cX8_readWord 93 = .ok (.isub, 1) := by decide +kernel
theorem dX8_readWord_94 : decode cX8_readWord 94 = .ok (.putfield 22, 3) := by decide +kernel
theorem dX8_readWord_97 : decode cX8_readWord 97 = .ok (.goto 59, 3) := by decide +kernel
theorem dX8_readWord_100 : decode cX8_readWord 100 = .ok (.iload_n 2, 1) := by decide +kernel
theorem dX8_readWord_101 : decode cX8_readWord 101 = .ok (.iconst 3, 1) := by decide +kernel
theorem dX8_readWord_102 : decode cX8_readWord 102 = .ok (.if_icmp .ne 38, 3) := by decide +kernel
theorem dX8_readWord_105 : decode cX8_readWord 105 = .ok (.iload_n 1, 1) := by decide +kernel
theorem dX8_readWord_106 : decode cX8_readWord 106 = .ok (.ldc 54, 2) := by decide +kernel
theorem dX8_readWord_108 : decode cX8_readWord 108 = .ok (.if_icmp .eq 9, 3) := by decide +kernel
theorem dX8_readWord_111 : decode cX8_readWord 111 = .ok (.iload_n 1, 1) := by decide +kernel
theorem dX8_readWord_112 : decode cX8_readWord 112 = .ok (.ldc 55, 2) := by decide +kernel
theorem dX8_readWord_114 : decode cX8_readWord 114 = .ok (.if_icmp .ne 26, 3) := by decide +kernel
theorem dX8_readWord_117 : decode cX8_readWord 117 = .ok (.aload_n 0, 1) := by decide +kernel
theorem dX8_readWord_118 : decode cX8_readWord 118 = .ok (.iconst 1, 1) := by decide +kernel
theorem dX8_readWord_119 : decode cX8_readWord 119 = .ok (.putfield 19, 3) := by decide +kernel
theorem dX8_readWord_122 : decode cX8_readWord 122 = .ok (.aload_n 0, 1) := by decide +kernel
theorem dX8_readWord_123 : decode cX8_readWord 123 = .ok (.iload_n 1, 1) := by decide +kernel
theorem dX8_readWord_124 : decode cX8_readWord 124 = .ok (.ldc 54, 2) := by decide +kernel
theorem dX8_readWord_126 : decode cX8_readWord 126 = .ok (.if_icmp .ne 7, 3) := by decide +kernel
theorem dX8_readWord_129 : decode cX8_readWord 129 = .ok (.iconst 1, 1) := by decide +kernel
theorem dX8_readWord_130 : decode cX8_readWord 130 = .ok (.goto 4, 3) := by decide +kernel
theorem dX8_readWord_133 : decode cX8_readWord 133 = .ok (.iconst 2, 1) := by decide +kernel
theorem dX8_readWord_134 : decode cX8_readWord 134 = .ok (.putfield 22, 3) := by decide +kernel
theorem dX8_readWord_137 : decode cX8_readWord 137 = .ok (.goto 19, 3) := by decide +kernel
theorem dX8_readWord_140 : decode cX8_readWord 140 = .ok (.iload_n 2, 1) := by decide +kernel
theorem dX8_readWord_141 : decode cX8_readWord 141 = .ok (.iconst 3, 1) := by decide +kernel
theorem dX8_readWord_142 : decode cX8_readWord 142 = .ok (.if_icmp .ne 14, 3) := by decide +kernel
theorem dX8_readWord_145 : decode cX8_readWord 145 = .ok (.iload_n 1, 1) := by decide +kernel
theorem dX8_readWord_146 : decode cX8_readWord 146 = .ok (.ldc 56, 2) := by decide +kernel
theorem dX8_readWord_148 : decode cX8_readWord 148 = .ok (.if_icmp .ne 8, 3) := by decide +kernel
theorem dX8_readWord_151 : decode cX8_readWord 151 = .ok (.aload_n 0, 1) := by decide +kernel
theorem dX8_readWord_152 : decode cX8_readWord 152 = .ok (.iconst 2, 1) := by decide +kernel
theorem dX8_readWord_153 : decode cX8_readWord 153 = .ok (.putfield 19, 3) := by decide +kernel
theorem dX8_readWord_156 : decode cX8_readWord 156 = .ok (.return_, 1) := by decide +kernel
theorem dX8_readNumber_0 : decode cX8_readNumber 0 = .ok (.aload_n 0, 1) := by decide +kernel
theorem dX8_readNumber_1 : decode cX8_readNumber 1 = .ok (.getfield 28, 3) := by decide +kernel
theorem dX8_readNumber_4 : decode cX8_readNumber 4 = .ok (.aload_n 0, 1) := by decide +kernel
theorem dX8_readNumber_5 : decode cX8_readNumber 5 = .ok (.getfield 15, 3) := by decide +kernel
theorem dX8_readNumber_8 : decode cX8_readNumber 8 = .ok (.if_icmp .ge 58, 3) := by decide +kernel
theorem dX8_readNumber_11 : decode cX8_readNumber 11 = .ok (.aload_n 0, 1) := by decide +kernel
theorem dX8_readNumber_12 : decode cX8_readNumber 12 = .ok (.aload_n 0, 1) := by decide +kernel
theorem dX8_readNumber_13 : decode cX8_readNumber 13 = .ok (.getfield 28, 3) := by decide +kernel
theorem dX8_readNumber_16 : decode cX8_readNumber 16 = .ok (.invokevirtual 37, 3) := by decide +kernel
theorem dX8_readNumber_19 : decode cX8_readNumber 19 = .ok (.invokestatic 48, 3) := by decide +kernel
theorem dX8_readNumber_22 : decode cX8_readNumber 22 = .ok (.ifCond .eq 44, 3) := by decide +kernel
theorem dX8_readNumber_25 : decode cX8_readNumber 25 = .ok (.aload_n 0, 1) := by decide +kernel
theorem dX8_readNumber_26 : decode cX8_readNumber 26 = .ok (.bipush 10, 2) := by decide +kernel
theorem dX8_readNumber_28 : decode cX8_readNumber 28 = .ok (.aload_n 0, 1) := by decide +kernel
theorem dX8_readNumber_29 : decode cX8_readNumber 29 = .ok (.getfield 22, 3) := by decide +kernel
theorem dX8_readNumber_32 : decode cX8_readNumber 32 = .ok (.imul, 1) := by decide +kernel
theorem dX8_readNumber_33 : decode cX8_readNumber 33 = .ok (.aload_n 0, 1) := by decide +kernel
theorem dX8_readNumber_34 : decode cX8_readNumber 34 = .ok (.aload_n 0, 1) := by decide +kernel
theorem dX8_readNumber_35 : decode cX8_readNumber 35 = .ok (.getfield 28, 3) := by decide +kernel
theorem dX8_readNumber_38 : decode cX8_readNumber 38 = .ok (.invokevirtual 37, 3) := by decide +kernel
theorem dX8_readNumber_41 : decode cX8_readNumber 41 = .ok (.iadd, 1) := by decide +kernel
theorem dX8_readNumber_42 : decode cX8_readNumber 42 = .ok (.bipush 48, 2) := by decide +kernel
theorem dX8_readNumber_44 : decode cX8_readNumber 44 = .ok (.isub, 1) := by decide +kernel
theorem dX8_readNumber_45 : decode cX8_readNumber 45 = .ok (.bipush 100, 2) := by decide +kernel
theorem dX8_readNumber_47 : decode cX8_readNumber 47 = .ok (.invokestatic 57, 3) := by decide +kernel
theorem dX8_readNumber_50 : decode cX8_readNumber 50 = .ok (.putfield 22, 3) := by decide +kernel
theorem dX8_readNumber_53 : decode cX8_readNumber 53 = .ok (.aload_n 0, 1) := by decide +kernel
theorem dX8_readNumber_54 : decode cX8_readNumber 54 = .ok (.dup, 1) := by decide +kernel
theorem dX8_readNumber_55 : decode cX8_readNumber 55 = .ok (.getfield 28, 3) := by decide +kernel
theorem dX8_readNumber_58 : decode cX8_readNumber 58 = .ok (.iconst 1, 1) := by decide +kernel
theorem dX8_readNumber_59 : decode cX8_readNumber 59 = .ok (.iadd, 1) := by decide +kernel
theorem dX8_readNumber_60 : decode cX8_readNumber 60 = .ok (.putfield 28, 3) := by decide +kernel
theorem dX8_readNumber_63 : decode cX8_readNumber 63 = .ok (.goto (-63), 3) := by decide +kernel
theorem dX8_readNumber_66 : decode cX8_readNumber 66 = .ok (.aload_n 0, 1) := by decide +kernel
theorem dX8_readNumber_67 : decode cX8_readNumber 67 = .ok (.getfield 28, 3) := by decide +kernel
theorem dX8_readNumber_70 : decode cX8_readNumber 70 = .ok (.aload_n 0, 1) := by decide +kernel
theorem dX8_readNumber_71 : decode cX8_readNumber 71 = .ok (.getfield 25, 3) := by decide +kernel
theorem dX8_readNumber_74 : decode cX8_readNumber 74 = .ok (.isub, 1) := by decide +kernel
theorem dX8_readNumber_75 : decode cX8_readNumber 75 = .ok (.iconst 1, 1) := by decide +kernel
theorem dX8_readNumber_76 : decode cX8_readNumber 76 = .ok (.if_icmp .le 20, 3) := by decide +kernel
theorem dX8_readNumber_79 : decode cX8_readNumber 79 = .ok (.aload_n 0, 1) := by decide +kernel
theorem dX8_readNumber_80 : decode cX8_readNumber 80 = .ok (.aload_n 0, 1) := by decide +kernel
theorem dX8_readNumber_81 : decode cX8_readNumber 81 = .ok (.getfield 25, 3) := by decide +kernel
theorem dX8_readNumber_84 : decode cX8_readNumber 84 = .ok (.invokevirtual 37, 3) := by decide +kernel
theorem dX8_readNumber_87 : decode cX8_readNumber 87 = .ok (.bipush 48, 2) := by decide +kernel
theorem dX8_readNumber_89 : decode cX8_readNumber 89 = .ok (.if_icmp .ne 7, 3) := by decide +kernel
theorem dX8_readNumber_92 : decode cX8_readNumber 92 = .ok (.iconst 1, 1) := by decide +kernel
theorem dX8_readNumber_93 : decode cX8_readNumber 93 = .ok (.goto 4, 3) := by decide +kernel
theorem dX8_readNumber_96 : decode cX8_readNumber 96 = .ok (.iconst 0, 1) := by decide +kernel
theorem dX8_readNumber_97 : decode cX8_readNumber 97 = .ok (.istore_n 1, 1) := by decide +kernel
theorem dX8_readNumber_98 : decode cX8_readNumber 98 = .ok (.aload_n 0, 1) := by decide +kernel
theorem dX8_readNumber_99 : decode cX8_readNumber 99 = .ok (.iload_n 1, 1) := by decide +kernel
theorem dX8_readNumber_100 : decode cX8_readNumber 100 = .ok (.ifCond .ne 12, 3) := by decide +kernel
theorem dX8_readNumber_103 : decode cX8_readNumber 103 = .ok (.aload_n 0, 1) := by decide +kernel
theorem dX8_readNumber_104 : decode cX8_readNumber 104 = .ok (.getfield 22, 3) := by decide +kernel
theorem dX8_readNumber_107 : decode cX8_readNumber 107 = .ok (.bipush 99, 2) := by decide +kernel
theorem dX8_readNumber_109 : decode cX8_readNumber 109 = .ok (.if_icmp .le 8, 3) := by decide +kernel
theorem dX8_readNumber_112 : decode cX8_readNumber 112 = .ok (.bipush 7, 2) := by decide +kernel
theorem dX8_readNumber_114 : decode cX8_readNumber 114 = .ok (.goto 4, 3) := by decide +kernel
theorem dX8_readNumber_117 : decode cX8_readNumber 117 = .ok (.iconst 4, 1) := by decide +kernel
theorem dX8_readNumber_118 : decode cX8_readNumber 118 = .ok (.putfield 19, 3) := by decide +kernel
theorem dX8_readNumber_121 : decode cX8_readNumber 121 = .ok (.return_, 1) := by decide +kernel
def wdK (p s k v w : Int32) : Int32 := if ¬ (p - s) = 1 then (if ¬ (p - s) = 3 then (7) else (if w = 7302757 then (if ¬ w = 7302757 then (1) else (1)) else (if ¬ w = 7632751 then (if ¬ w = 6518132 then (7) else (2)) else (if ¬ w = 7302757 then (1) else (1))))) else (if 8 ≤ (w - 97) then (if ¬ (p - s) = 3 then (7) else (if w = 7302757 then (if ¬ w = 7302757 then (1) else (1)) else (if ¬ w = 7632751 then (if ¬ w = 6518132 then (7) else (2)) else (if ¬ w = 7302757 then (1) else (1))))) else (3))
def wdV (p s k v w : Int32) : Int32 := if ¬ (p - s) = 1 then (if ¬ (p - s) = 3 then (v) else (if w = 7302757 then (if ¬ w = 7302757 then (2) else (1)) else (if ¬ w = 7632751 then (if ¬ w = 6518132 then (v) else (v)) else (if ¬ w = 7302757 then (2) else (1))))) else (if 8 ≤ (w - 97) then (if ¬ (p - s) = 3 then (v) else (if w = 7302757 then (if ¬ w = 7302757 then (2) else (1)) else (if ¬ w = 7632751 then (if ¬ w = 6518132 then (v) else (v)) else (if ¬ w = 7302757 then (2) else (1))))) else ((w - 97)))
set_option maxRecDepth 20000 in
theorem s_X8_readWord_tail {xs : Nat → Int32} {L d : Nat} {h : ev_H} {n p s k v w : Int32} {u : Option Value} {f : Nat → Int32} (h3 : h 3 = c3 n p s k v) (h4 : h 4 = c4 f) : EV xs L (d + 0) 0 0 M_X8_readWord 434 h 54 [some (.ref 3), some (.int w), u] [] (fun sz' h' r => sz' = 434 ∧ h' = va_up h 3 (c3 n p s (wdK p s k v w) (wdV p s k v w)) ∧ r = []) := by
  refine r_aload_n rfl dX8_readWord_54 rfl ?_
  refine r_getv 2 rfl dX8_readWord_55 (show 2 ≤ 3 ∧ 3 < 434 by decide) h3 fl_X8_28 rfl ?_
  refine r_aload_n rfl dX8_readWord_58 rfl ?_
  refine r_getv 3 rfl dX8_readWord_59 (show 2 ≤ 3 ∧ 3 < 434 by decide) h3 fl_X8_25 rfl ?_
  refine r_isub rfl dX8_readWord_62 ?_
  refine r_topi (fun x51 e52 => ?_)
  refine r_istore_n (ls' := [some (.ref 3), some (.int w), some (.int x51)]) rfl dX8_readWord_63 (Nat.le_of_ble_eq_true rfl) rfl ?_
  refine r_aload_n rfl dX8_readWord_64 rfl ?_
  refine r_bipush (v := 7) rfl dX8_readWord_65 (by decide) ?_
  refine r_putv 4 (fs' := [.ref 4, .int n, .int p, .int s, .int 7, .int v]) rfl dX8_readWord_67 (show 2 ≤ 3 ∧ 3 < 434 by decide) h3 (fp_X8_19 rfl _) (Nat.le_of_ble_eq_true rfl) rfl (fun h53 eh54 => ?_)
  have f55 : h53 3 = .inr (8, [.ref 4, .int n, .int p, .int s, .int 7, .int v]) := by rw [eh54]; exact va_up_self _ _ _
  have f56 : h53 4 = .inl (2, 300, .inl f) := by rw [eh54, va_up_ne _ _ (fun q => by rw [q, h3] at h4; cases h4)]; exact h4
  refine r_iload_n rfl dX8_readWord_70 rfl ?_
  refine r_iconst (v := 1) rfl dX8_readWord_71 (by decide) ?_
  refine r_icmp_ne (tgt := 100) rfl rfl dX8_readWord_72 (fun c57 => ?_) (fun c57 => ?_)
  · refine r_iload_n rfl dX8_readWord_100 rfl ?_
    refine r_iconst (v := 3) rfl dX8_readWord_101 (by decide) ?_
    refine r_icmp_ne (tgt := 140) rfl rfl dX8_readWord_102 (fun c58 => ?_) (fun c58 => ?_)
    · refine r_iload_n rfl dX8_readWord_140 rfl ?_
      refine r_iconst (v := 3) rfl dX8_readWord_141 (by decide) ?_
      refine r_icmp_ne (tgt := 156) rfl rfl dX8_readWord_142 (fun _ => ?_) (fun c => absurd c (by first | exact c58 | exact fun z => z c58))
      subst e52
      subst eh54
      exact r_ret dX8_readWord_156 (rt_v rfl) ⟨rfl, by simp only [wdK, wdV, if_pos c57, if_pos c58, va_up_up], rfl⟩
    · refine r_iload_n rfl dX8_readWord_105 rfl ?_
      refine r_ldc (v := 7302757) rfl dX8_readWord_106 lc_X8_54 ?_
      refine r_icmp_eq (tgt := 117) rfl rfl dX8_readWord_108 (fun c59 => ?_) (fun c59 => ?_)
      · refine r_aload_n rfl dX8_readWord_117 rfl ?_
        refine r_iconst (v := 1) rfl dX8_readWord_118 (by decide) ?_
        refine r_putv 4 (fs' := [.ref 4, .int n, .int p, .int s, .int 1, .int v]) rfl dX8_readWord_119 (show 2 ≤ 3 ∧ 3 < 434 by decide) f55 (fp_X8_19 rfl _) (Nat.le_of_ble_eq_true rfl) rfl (fun h60 eh61 => ?_)
        have f62 : h60 3 = .inr (8, [.ref 4, .int n, .int p, .int s, .int 1, .int v]) := by rw [eh61]; exact va_up_self _ _ _
        have f63 : h60 4 = .inl (2, 300, .inl f) := by rw [eh61, va_up_ne _ _ (fun q => by rw [q, f55] at f56; cases f56)]; exact f56
        refine r_aload_n rfl dX8_readWord_122 rfl ?_
        refine r_iload_n rfl dX8_readWord_123 rfl ?_
        refine r_ldc (v := 7302757) rfl dX8_readWord_124 lc_X8_54 ?_
        refine r_icmp_ne (tgt := 133) rfl rfl dX8_readWord_126 (fun c64 => ?_) (fun c64 => ?_)
        · refine r_iconst (v := 2) rfl dX8_readWord_133 (by decide) ?_
          refine r_putv 5 (fs' := [.ref 4, .int n, .int p, .int s, .int 1, .int 2]) rfl dX8_readWord_134 (show 2 ≤ 3 ∧ 3 < 434 by decide) f62 (fp_X8_22 rfl _) (Nat.le_of_ble_eq_true rfl) rfl (fun h65 eh66 => ?_)
          have f67 : h65 3 = .inr (8, [.ref 4, .int n, .int p, .int s, .int 1, .int 2]) := by rw [eh66]; exact va_up_self _ _ _
          have f68 : h65 4 = .inl (2, 300, .inl f) := by rw [eh66, va_up_ne _ _ (fun q => by rw [q, f62] at f63; cases f63)]; exact f63
          refine r_goto (pc' := 156) rfl dX8_readWord_137 ?_
          subst e52
          subst eh66
          subst eh61
          subst eh54
          exact r_ret dX8_readWord_156 (rt_v rfl) ⟨rfl, by simp only [wdK, wdV, if_pos c57, if_neg (not_not_intro c58), if_pos c59, if_pos c64, va_up_up], rfl⟩
        · refine r_iconst (v := 1) rfl dX8_readWord_129 (by decide) ?_
          refine r_goto (pc' := 134) rfl dX8_readWord_130 ?_
          refine r_putv 5 (fs' := [.ref 4, .int n, .int p, .int s, .int 1, .int 1]) rfl dX8_readWord_134 (show 2 ≤ 3 ∧ 3 < 434 by decide) f62 (fp_X8_22 rfl _) (Nat.le_of_ble_eq_true rfl) rfl (fun h69 eh70 => ?_)
          have f71 : h69 3 = .inr (8, [.ref 4, .int n, .int p, .int s, .int 1, .int 1]) := by rw [eh70]; exact va_up_self _ _ _
          have f72 : h69 4 = .inl (2, 300, .inl f) := by rw [eh70, va_up_ne _ _ (fun q => by rw [q, f62] at f63; cases f63)]; exact f63
          refine r_goto (pc' := 156) rfl dX8_readWord_137 ?_
          subst e52
          subst eh70
          subst eh61
          subst eh54
          exact r_ret dX8_readWord_156 (rt_v rfl) ⟨rfl, by simp only [wdK, wdV, if_pos c57, if_neg (not_not_intro c58), if_pos c59, if_neg (not_not_intro c64), va_up_up], rfl⟩
      · refine r_iload_n rfl dX8_readWord_111 rfl ?_
        refine r_ldc (v := 7632751) rfl dX8_readWord_112 lc_X8_55 ?_
        refine r_icmp_ne (tgt := 140) rfl rfl dX8_readWord_114 (fun c73 => ?_) (fun c73 => ?_)
        · refine r_iload_n rfl dX8_readWord_140 rfl ?_
          refine r_iconst (v := 3) rfl dX8_readWord_141 (by decide) ?_
          refine r_icmp_ne (tgt := 156) rfl rfl dX8_readWord_142 (fun c => absurd c (by first | exact c58 | exact fun z => z c58)) (fun _ => ?_)
          refine r_iload_n rfl dX8_readWord_145 rfl ?_
          refine r_ldc (v := 6518132) rfl dX8_readWord_146 lc_X8_56 ?_
          refine r_icmp_ne (tgt := 156) rfl rfl dX8_readWord_148 (fun c74 => ?_) (fun c74 => ?_)
          · subst e52
            subst eh54
            exact r_ret dX8_readWord_156 (rt_v rfl) ⟨rfl, by simp only [wdK, wdV, if_pos c57, if_neg (not_not_intro c58), if_neg c59, if_pos c73, if_pos c74, va_up_up], rfl⟩
          · refine r_aload_n rfl dX8_readWord_151 rfl ?_
            refine r_iconst (v := 2) rfl dX8_readWord_152 (by decide) ?_
            refine r_putv 4 (fs' := [.ref 4, .int n, .int p, .int s, .int 2, .int v]) rfl dX8_readWord_153 (show 2 ≤ 3 ∧ 3 < 434 by decide) f55 (fp_X8_19 rfl _) (Nat.le_of_ble_eq_true rfl) rfl (fun h75 eh76 => ?_)
            have f77 : h75 3 = .inr (8, [.ref 4, .int n, .int p, .int s, .int 2, .int v]) := by rw [eh76]; exact va_up_self _ _ _
            have f78 : h75 4 = .inl (2, 300, .inl f) := by rw [eh76, va_up_ne _ _ (fun q => by rw [q, f55] at f56; cases f56)]; exact f56
            subst e52
            subst eh76
            subst eh54
            exact r_ret dX8_readWord_156 (rt_v rfl) ⟨rfl, by simp only [wdK, wdV, if_pos c57, if_neg (not_not_intro c58), if_neg c59, if_pos c73, if_neg (not_not_intro c74), va_up_up], rfl⟩
        · refine r_aload_n rfl dX8_readWord_117 rfl ?_
          refine r_iconst (v := 1) rfl dX8_readWord_118 (by decide) ?_
          refine r_putv 4 (fs' := [.ref 4, .int n, .int p, .int s, .int 1, .int v]) rfl dX8_readWord_119 (show 2 ≤ 3 ∧ 3 < 434 by decide) f55 (fp_X8_19 rfl _) (Nat.le_of_ble_eq_true rfl) rfl (fun h79 eh80 => ?_)
          have f81 : h79 3 = .inr (8, [.ref 4, .int n, .int p, .int s, .int 1, .int v]) := by rw [eh80]; exact va_up_self _ _ _
          have f82 : h79 4 = .inl (2, 300, .inl f) := by rw [eh80, va_up_ne _ _ (fun q => by rw [q, f55] at f56; cases f56)]; exact f56
          refine r_aload_n rfl dX8_readWord_122 rfl ?_
          refine r_iload_n rfl dX8_readWord_123 rfl ?_
          refine r_ldc (v := 7302757) rfl dX8_readWord_124 lc_X8_54 ?_
          refine r_icmp_ne (tgt := 133) rfl rfl dX8_readWord_126 (fun c83 => ?_) (fun c83 => ?_)
          · refine r_iconst (v := 2) rfl dX8_readWord_133 (by decide) ?_
            refine r_putv 5 (fs' := [.ref 4, .int n, .int p, .int s, .int 1, .int 2]) rfl dX8_readWord_134 (show 2 ≤ 3 ∧ 3 < 434 by decide) f81 (fp_X8_22 rfl _) (Nat.le_of_ble_eq_true rfl) rfl (fun h84 eh85 => ?_)
            have f86 : h84 3 = .inr (8, [.ref 4, .int n, .int p, .int s, .int 1, .int 2]) := by rw [eh85]; exact va_up_self _ _ _
            have f87 : h84 4 = .inl (2, 300, .inl f) := by rw [eh85, va_up_ne _ _ (fun q => by rw [q, f81] at f82; cases f82)]; exact f82
            refine r_goto (pc' := 156) rfl dX8_readWord_137 ?_
            subst e52
            subst eh85
            subst eh80
            subst eh54
            exact r_ret dX8_readWord_156 (rt_v rfl) ⟨rfl, by simp only [wdK, wdV, if_pos c57, if_neg (not_not_intro c58), if_neg c59, if_neg (not_not_intro c73), if_pos c83, va_up_up], rfl⟩
          · refine r_iconst (v := 1) rfl dX8_readWord_129 (by decide) ?_
            refine r_goto (pc' := 134) rfl dX8_readWord_130 ?_
            refine r_putv 5 (fs' := [.ref 4, .int n, .int p, .int s, .int 1, .int 1]) rfl dX8_readWord_134 (show 2 ≤ 3 ∧ 3 < 434 by decide) f81 (fp_X8_22 rfl _) (Nat.le_of_ble_eq_true rfl) rfl (fun h88 eh89 => ?_)
            have f90 : h88 3 = .inr (8, [.ref 4, .int n, .int p, .int s, .int 1, .int 1]) := by rw [eh89]; exact va_up_self _ _ _
            have f91 : h88 4 = .inl (2, 300, .inl f) := by rw [eh89, va_up_ne _ _ (fun q => by rw [q, f81] at f82; cases f82)]; exact f82
            refine r_goto (pc' := 156) rfl dX8_readWord_137 ?_
            subst e52
            subst eh89
            subst eh80
            subst eh54
            exact r_ret dX8_readWord_156 (rt_v rfl) ⟨rfl, by simp only [wdK, wdV, if_pos c57, if_neg (not_not_intro c58), if_neg c59, if_neg (not_not_intro c73), if_neg (not_not_intro c83), va_up_up], rfl⟩
  · refine r_iload_n rfl dX8_readWord_75 rfl ?_
    refine r_bipush (v := 97) rfl dX8_readWord_76 (by decide) ?_
    refine r_isub rfl dX8_readWord_78 ?_
    refine r_bipush (v := 8) rfl dX8_readWord_79 (by decide) ?_
    refine r_icmp_ge (tgt := 100) rfl rfl dX8_readWord_81 (fun c92 => ?_) (fun c92 => ?_)
    · refine r_iload_n rfl dX8_readWord_100 rfl ?_
      refine r_iconst (v := 3) rfl dX8_readWord_101 (by decide) ?_
      refine r_icmp_ne (tgt := 140) rfl rfl dX8_readWord_102 (fun c93 => ?_) (fun c93 => ?_)
      · refine r_iload_n rfl dX8_readWord_140 rfl ?_
        refine r_iconst (v := 3) rfl dX8_readWord_141 (by decide) ?_
        refine r_icmp_ne (tgt := 156) rfl rfl dX8_readWord_142 (fun _ => ?_) (fun c => absurd c (by first | exact c93 | exact fun z => z c93))
        subst e52
        subst eh54
        exact r_ret dX8_readWord_156 (rt_v rfl) ⟨rfl, by simp only [wdK, wdV, if_neg (not_not_intro c57), if_pos c92, if_pos c93, va_up_up], rfl⟩
      · refine r_iload_n rfl dX8_readWord_105 rfl ?_
        refine r_ldc (v := 7302757) rfl dX8_readWord_106 lc_X8_54 ?_
        refine r_icmp_eq (tgt := 117) rfl rfl dX8_readWord_108 (fun c94 => ?_) (fun c94 => ?_)
        · refine r_aload_n rfl dX8_readWord_117 rfl ?_
          refine r_iconst (v := 1) rfl dX8_readWord_118 (by decide) ?_
          refine r_putv 4 (fs' := [.ref 4, .int n, .int p, .int s, .int 1, .int v]) rfl dX8_readWord_119 (show 2 ≤ 3 ∧ 3 < 434 by decide) f55 (fp_X8_19 rfl _) (Nat.le_of_ble_eq_true rfl) rfl (fun h95 eh96 => ?_)
          have f97 : h95 3 = .inr (8, [.ref 4, .int n, .int p, .int s, .int 1, .int v]) := by rw [eh96]; exact va_up_self _ _ _
          have f98 : h95 4 = .inl (2, 300, .inl f) := by rw [eh96, va_up_ne _ _ (fun q => by rw [q, f55] at f56; cases f56)]; exact f56
          refine r_aload_n rfl dX8_readWord_122 rfl ?_
          refine r_iload_n rfl dX8_readWord_123 rfl ?_
          refine r_ldc (v := 7302757) rfl dX8_readWord_124 lc_X8_54 ?_
          refine r_icmp_ne (tgt := 133) rfl rfl dX8_readWord_126 (fun c99 => ?_) (fun c99 => ?_)
          · refine r_iconst (v := 2) rfl dX8_readWord_133 (by decide) ?_
            refine r_putv 5 (fs' := [.ref 4, .int n, .int p, .int s, .int 1, .int 2]) rfl dX8_readWord_134 (show 2 ≤ 3 ∧ 3 < 434 by decide) f97 (fp_X8_22 rfl _) (Nat.le_of_ble_eq_true rfl) rfl (fun h100 eh101 => ?_)
            have f102 : h100 3 = .inr (8, [.ref 4, .int n, .int p, .int s, .int 1, .int 2]) := by rw [eh101]; exact va_up_self _ _ _
            have f103 : h100 4 = .inl (2, 300, .inl f) := by rw [eh101, va_up_ne _ _ (fun q => by rw [q, f97] at f98; cases f98)]; exact f98
            refine r_goto (pc' := 156) rfl dX8_readWord_137 ?_
            subst e52
            subst eh101
            subst eh96
            subst eh54
            exact r_ret dX8_readWord_156 (rt_v rfl) ⟨rfl, by simp only [wdK, wdV, if_neg (not_not_intro c57), if_pos c92, if_neg (not_not_intro c93), if_pos c94, if_pos c99, va_up_up], rfl⟩
          · refine r_iconst (v := 1) rfl dX8_readWord_129 (by decide) ?_
            refine r_goto (pc' := 134) rfl dX8_readWord_130 ?_
            refine r_putv 5 (fs' := [.ref 4, .int n, .int p, .int s, .int 1, .int 1]) rfl dX8_readWord_134 (show 2 ≤ 3 ∧ 3 < 434 by decide) f97 (fp_X8_22 rfl _) (Nat.le_of_ble_eq_true rfl) rfl (fun h104 eh105 => ?_)
            have f106 : h104 3 = .inr (8, [.ref 4, .int n, .int p, .int s, .int 1, .int 1]) := by rw [eh105]; exact va_up_self _ _ _
            have f107 : h104 4 = .inl (2, 300, .inl f) := by rw [eh105, va_up_ne _ _ (fun q => by rw [q, f97] at f98; cases f98)]; exact f98
            refine r_goto (pc' := 156) rfl dX8_readWord_137 ?_
            subst e52
            subst eh105
            subst eh96
            subst eh54
            exact r_ret dX8_readWord_156 (rt_v rfl) ⟨rfl, by simp only [wdK, wdV, if_neg (not_not_intro c57), if_pos c92, if_neg (not_not_intro c93), if_pos c94, if_neg (not_not_intro c99), va_up_up], rfl⟩
        · refine r_iload_n rfl dX8_readWord_111 rfl ?_
          refine r_ldc (v := 7632751) rfl dX8_readWord_112 lc_X8_55 ?_
          refine r_icmp_ne (tgt := 140) rfl rfl dX8_readWord_114 (fun c108 => ?_) (fun c108 => ?_)
          · refine r_iload_n rfl dX8_readWord_140 rfl ?_
            refine r_iconst (v := 3) rfl dX8_readWord_141 (by decide) ?_
            refine r_icmp_ne (tgt := 156) rfl rfl dX8_readWord_142 (fun c => absurd c (by first | exact c93 | exact fun z => z c93)) (fun _ => ?_)
            refine r_iload_n rfl dX8_readWord_145 rfl ?_
            refine r_ldc (v := 6518132) rfl dX8_readWord_146 lc_X8_56 ?_
            refine r_icmp_ne (tgt := 156) rfl rfl dX8_readWord_148 (fun c109 => ?_) (fun c109 => ?_)
            · subst e52
              subst eh54
              exact r_ret dX8_readWord_156 (rt_v rfl) ⟨rfl, by simp only [wdK, wdV, if_neg (not_not_intro c57), if_pos c92, if_neg (not_not_intro c93), if_neg c94, if_pos c108, if_pos c109, va_up_up], rfl⟩
            · refine r_aload_n rfl dX8_readWord_151 rfl ?_
              refine r_iconst (v := 2) rfl dX8_readWord_152 (by decide) ?_
              refine r_putv 4 (fs' := [.ref 4, .int n, .int p, .int s, .int 2, .int v]) rfl dX8_readWord_153 (show 2 ≤ 3 ∧ 3 < 434 by decide) f55 (fp_X8_19 rfl _) (Nat.le_of_ble_eq_true rfl) rfl (fun h110 eh111 => ?_)
              have f112 : h110 3 = .inr (8, [.ref 4, .int n, .int p, .int s, .int 2, .int v]) := by rw [eh111]; exact va_up_self _ _ _
              have f113 : h110 4 = .inl (2, 300, .inl f) := by rw [eh111, va_up_ne _ _ (fun q => by rw [q, f55] at f56; cases f56)]; exact f56
              subst e52
              subst eh111
              subst eh54
              exact r_ret dX8_readWord_156 (rt_v rfl) ⟨rfl, by simp only [wdK, wdV, if_neg (not_not_intro c57), if_pos c92, if_neg (not_not_intro c93), if_neg c94, if_pos c108, if_neg (not_not_intro c109), va_up_up], rfl⟩
          · refine r_aload_n rfl dX8_readWord_117 rfl ?_
            refine r_iconst (v := 1) rfl dX8_readWord_118 (by decide) ?_
            refine r_putv 4 (fs' := [.ref 4, .int n, .int p, .int s, .int 1, .int v]) rfl dX8_readWord_119 (show 2 ≤ 3 ∧ 3 < 434 by decide) f55 (fp_X8_19 rfl _) (Nat.le_of_ble_eq_true rfl) rfl (fun h114 eh115 => ?_)
            have f116 : h114 3 = .inr (8, [.ref 4, .int n, .int p, .int s, .int 1, .int v]) := by rw [eh115]; exact va_up_self _ _ _
            have f117 : h114 4 = .inl (2, 300, .inl f) := by rw [eh115, va_up_ne _ _ (fun q => by rw [q, f55] at f56; cases f56)]; exact f56
            refine r_aload_n rfl dX8_readWord_122 rfl ?_
            refine r_iload_n rfl dX8_readWord_123 rfl ?_
            refine r_ldc (v := 7302757) rfl dX8_readWord_124 lc_X8_54 ?_
            refine r_icmp_ne (tgt := 133) rfl rfl dX8_readWord_126 (fun c118 => ?_) (fun c118 => ?_)
            · refine r_iconst (v := 2) rfl dX8_readWord_133 (by decide) ?_
              refine r_putv 5 (fs' := [.ref 4, .int n, .int p, .int s, .int 1, .int 2]) rfl dX8_readWord_134 (show 2 ≤ 3 ∧ 3 < 434 by decide) f116 (fp_X8_22 rfl _) (Nat.le_of_ble_eq_true rfl) rfl (fun h119 eh120 => ?_)
              have f121 : h119 3 = .inr (8, [.ref 4, .int n, .int p, .int s, .int 1, .int 2]) := by rw [eh120]; exact va_up_self _ _ _
              have f122 : h119 4 = .inl (2, 300, .inl f) := by rw [eh120, va_up_ne _ _ (fun q => by rw [q, f116] at f117; cases f117)]; exact f117
              refine r_goto (pc' := 156) rfl dX8_readWord_137 ?_
              subst e52
              subst eh120
              subst eh115
              subst eh54
              exact r_ret dX8_readWord_156 (rt_v rfl) ⟨rfl, by simp only [wdK, wdV, if_neg (not_not_intro c57), if_pos c92, if_neg (not_not_intro c93), if_neg c94, if_neg (not_not_intro c108), if_pos c118, va_up_up], rfl⟩
            · refine r_iconst (v := 1) rfl dX8_readWord_129 (by decide) ?_
              refine r_goto (pc' := 134) rfl dX8_readWord_130 ?_
              refine r_putv 5 (fs' := [.ref 4, .int n, .int p, .int s, .int 1, .int 1]) rfl dX8_readWord_134 (show 2 ≤ 3 ∧ 3 < 434 by decide) f116 (fp_X8_22 rfl _) (Nat.le_of_ble_eq_true rfl) rfl (fun h123 eh124 => ?_)
              have f125 : h123 3 = .inr (8, [.ref 4, .int n, .int p, .int s, .int 1, .int 1]) := by rw [eh124]; exact va_up_self _ _ _
              have f126 : h123 4 = .inl (2, 300, .inl f) := by rw [eh124, va_up_ne _ _ (fun q => by rw [q, f116] at f117; cases f117)]; exact f117
              refine r_goto (pc' := 156) rfl dX8_readWord_137 ?_
              subst e52
              subst eh124
              subst eh115
              subst eh54
              exact r_ret dX8_readWord_156 (rt_v rfl) ⟨rfl, by simp only [wdK, wdV, if_neg (not_not_intro c57), if_pos c92, if_neg (not_not_intro c93), if_neg c94, if_neg (not_not_intro c108), if_neg (not_not_intro c118), va_up_up], rfl⟩
    · refine r_aload_n rfl dX8_readWord_84 rfl ?_
      refine r_iconst (v := 3) rfl dX8_readWord_85 (by decide) ?_
      refine r_putv 4 (fs' := [.ref 4, .int n, .int p, .int s, .int 3, .int v]) rfl dX8_readWord_86 (show 2 ≤ 3 ∧ 3 < 434 by decide) f55 (fp_X8_19 rfl _) (Nat.le_of_ble_eq_true rfl) rfl (fun h127 eh128 => ?_)
      have f129 : h127 3 = .inr (8, [.ref 4, .int n, .int p, .int s, .int 3, .int v]) := by rw [eh128]; exact va_up_self _ _ _
      have f130 : h127 4 = .inl (2, 300, .inl f) := by rw [eh128, va_up_ne _ _ (fun q => by rw [q, f55] at f56; cases f56)]; exact f56
      refine r_aload_n rfl dX8_readWord_89 rfl ?_
      refine r_iload_n rfl dX8_readWord_90 rfl ?_
      refine r_bipush (v := 97) rfl dX8_readWord_91 (by decide) ?_
      refine r_isub rfl dX8_readWord_93 ?_
      refine r_topi (fun x131 e132 => ?_)
      refine r_putv 5 (fs' := [.ref 4, .int n, .int p, .int s, .int 3, .int x131]) rfl dX8_readWord_94 (show 2 ≤ 3 ∧ 3 < 434 by decide) f129 (fp_X8_22 rfl _) (Nat.le_of_ble_eq_true rfl) rfl (fun h133 eh134 => ?_)
      have f135 : h133 3 = .inr (8, [.ref 4, .int n, .int p, .int s, .int 3, .int x131]) := by rw [eh134]; exact va_up_self _ _ _
      have f136 : h133 4 = .inl (2, 300, .inl f) := by rw [eh134, va_up_ne _ _ (fun q => by rw [q, f129] at f130; cases f130)]; exact f130
      refine r_goto (pc' := 156) rfl dX8_readWord_97 ?_
      subst e132
      subst e52
      subst eh134
      subst eh128
      subst eh54
      exact r_ret dX8_readWord_156 (rt_v rfl) ⟨rfl, by simp only [wdK, wdV, if_neg (not_not_intro c57), if_neg c92, va_up_up], rfl⟩
set_option maxRecDepth 20000 in
theorem s_X8_readWord_loop {xs : Nat → Int32} {L d : Nat} {f : Nat → Int32} {n : Nat} {s k v : Int32} {u : Option Value} : ∀ (m p : Nat), p + m = n → n ≤ 300 → ∀ (h : ev_H) (h3 : h 3 = c3 (nI n) (nI p) s k v) (h4 : h 4 = c4 f) (w : Int32), EV xs L (d + 1) 0 0 M_X8_readWord 434 h 2 [some (.ref 3), some (.int w), u] [] (fun sz' h' r => sz' = 434 ∧ h' = va_up h 3 (c3 (nI n) (nI (wdp f n m p)) s (wdK (nI (wdp f n m p)) s k v (wdw f n m p w)) (wdV (nI (wdp f n m p)) s k v (wdw f n m p w))) ∧ r = []) := by
  intro m
  induction m with
  | zero =>
    intro p hp hn h h3 h4 w
    obtain rfl : n = p := by omega
    refine r_aload_n rfl dX8_readWord_2 rfl ?_
    refine r_getv 2 rfl dX8_readWord_3 (show 2 ≤ 3 ∧ 3 < 434 by decide) h3 fl_X8_28 rfl ?_
    refine r_aload_n rfl dX8_readWord_6 rfl ?_
    refine r_getv 1 rfl dX8_readWord_7 (show 2 ≤ 3 ∧ 3 < 434 by decide) h3 fl_X8_15 rfl ?_
    refine r_icmp_ge (tgt := 54) rfl rfl dX8_readWord_10 (fun _ => ?_) (fun c => absurd c (fun z => z (Int32.le_refl _)))
    exact s_X8_readWord_tail h3 h4
  | succ m ih =>
    intro p hp hn h h3 h4 w
    refine r_aload_n rfl dX8_readWord_2 rfl ?_
    refine r_getv 2 rfl dX8_readWord_3 (show 2 ≤ 3 ∧ 3 < 434 by decide) h3 fl_X8_28 rfl ?_
    refine r_aload_n rfl dX8_readWord_6 rfl ?_
    refine r_getv 1 rfl dX8_readWord_7 (show 2 ≤ 3 ∧ 3 < 434 by decide) h3 fl_X8_15 rfl ?_
    refine r_icmp_ge (tgt := 54) rfl rfl dX8_readWord_10 (fun c => absurd c (nI_ge (a := p) (b := n) (by omega) (by omega))) (fun _ => ?_)
    refine r_aload_n rfl dX8_readWord_13 rfl ?_
    refine r_aload_n rfl dX8_readWord_14 rfl ?_
    refine r_getv 2 rfl dX8_readWord_15 (show 2 ≤ 3 ∧ 3 < 434 by decide) h3 fl_X8_28 rfl ?_
    refine cl_X8_37 rfl rfl dX8_readWord_18 (show 2 ≤ 3 ∧ 3 < 434 by decide).1 (show 2 ≤ 3 ∧ 3 < 434 by decide).2 h3 (Nat.le_of_ble_eq_true rfl) (s_X8_byteAt h3 h4) ?_
    rintro _ _ _ ⟨rfl, rfl, rfl⟩
    refine cl_X8_41 rfl rfl dX8_readWord_21 (Nat.le_of_ble_eq_true rfl) s_X8_isWordSign ?_
    rintro _ _ _ ⟨rfl, rfl, rfl⟩
    refine r_if_eq (tgt := 54) rfl rfl dX8_readWord_24 (fun c301 => ?_) (fun c301 => ?_)
    · refine EV.post ?_ (s_X8_readWord_tail h3 h4)
      rintro _ _ _ ⟨rfl, rfl, rfl⟩
      exact ⟨rfl, by rw [wdp, wdw, if_pos c301, if_pos c301], rfl⟩
    · refine r_iload_n rfl dX8_readWord_27 rfl ?_
      refine r_bipush (v := 8) rfl dX8_readWord_28 (by decide) ?_
      refine r_ishl rfl dX8_readWord_30 ?_
      refine r_aload_n rfl dX8_readWord_31 rfl ?_
      refine r_aload_n rfl dX8_readWord_32 rfl ?_
      refine r_getv 2 rfl dX8_readWord_33 (show 2 ≤ 3 ∧ 3 < 434 by decide) h3 fl_X8_28 rfl ?_
      refine cl_X8_37 rfl rfl dX8_readWord_36 (show 2 ≤ 3 ∧ 3 < 434 by decide).1 (show 2 ≤ 3 ∧ 3 < 434 by decide).2 h3 (Nat.le_of_ble_eq_true rfl) (s_X8_byteAt h3 h4) ?_
      rintro _ _ _ ⟨rfl, rfl, rfl⟩
      refine r_ior rfl dX8_readWord_39 ?_
      refine r_topi (fun x302 e303 => ?_)
      refine r_istore_n (ls' := [some (.ref 3), some (.int x302), u]) rfl dX8_readWord_40 (Nat.le_of_ble_eq_true rfl) rfl ?_
      refine r_aload_n rfl dX8_readWord_41 rfl ?_
      refine r_dup rfl dX8_readWord_42 rfl ?_
      refine r_getv 2 rfl dX8_readWord_43 (show 2 ≤ 3 ∧ 3 < 434 by decide) h3 fl_X8_28 rfl ?_
      refine r_iconst (v := 1) rfl dX8_readWord_46 (by decide) ?_
      refine r_iadd rfl dX8_readWord_47 ?_
      refine r_eqi (y := nI (p + 1)) (nI_1 p) ?_
      refine r_putv 2 (fs' := [.ref 4, .int (nI n), .int (nI (p + 1)), .int s, .int k, .int v]) rfl dX8_readWord_48 (show 2 ≤ 3 ∧ 3 < 434 by decide) h3 (fp_X8_28 rfl _) (Nat.le_of_ble_eq_true rfl) rfl (fun h304 eh305 => ?_)
      have f306 : h304 3 = .inr (8, [.ref 4, .int (nI n), .int (nI (p + 1)), .int s, .int k, .int v]) := by rw [eh305]; exact va_up_self _ _ _
      have f307 : h304 4 = .inl (2, 300, .inl f) := by rw [eh305, va_up_ne _ _ (fun q => by rw [q, h3] at h4; cases h4)]; exact h4
      refine r_goto (pc' := 2) rfl dX8_readWord_51 ?_
      refine EV.post ?_ (ih (p + 1) (by omega) hn h304 f306 f307 x302)
      subst e303
      subst eh305
      rintro _ _ _ ⟨rfl, rfl, rfl⟩
      exact ⟨rfl, by rw [wdp, wdw, if_neg c301, if_neg c301]; simp only [va_up_up], rfl⟩
set_option maxRecDepth 20000 in
theorem s_X8_readWord {xs : Nat → Int32} {L d : Nat} {h : ev_H} {f : Nat → Int32} {n p : Nat} {s k v : Int32} (hp : p ≤ n) (hn : n ≤ 300) (h3 : h 3 = c3 (nI n) (nI p) s k v) (h4 : h 4 = c4 f) : EV xs L (d + 1) 0 0 M_X8_readWord 434 h 0 [some (.ref 3), none, none] [] (fun sz' h' r => sz' = 434 ∧ h' = va_up h 3 (c3 (nI n) (nI (wdp f n (n - p) p)) s (wdK (nI (wdp f n (n - p) p)) s k v (wdw f n (n - p) p 0)) (wdV (nI (wdp f n (n - p) p)) s k v (wdw f n (n - p) p 0))) ∧ r = []) := by
  refine r_iconst (v := 0) rfl dX8_readWord_0 (by decide) ?_
  refine r_istore_n (ls' := [some (.ref 3), some (.int 0), none]) rfl dX8_readWord_1 (Nat.le_of_ble_eq_true rfl) rfl ?_
  exact s_X8_readWord_loop (n - p) p (by omega) hn h h3 h4 0
def nuK (f : Nat → Int32) (n p s k v : Int32) : Int32 := if (p - s) ≤ 1 then (if v ≤ 99 then (4) else (7)) else (if ¬ (btA f n s) = 48 then (if v ≤ 99 then (4) else (7)) else (7))
def nuV (f : Nat → Int32) (n p s k v : Int32) : Int32 := if (p - s) ≤ 1 then (if v ≤ 99 then (v) else (v)) else (if ¬ (btA f n s) = 48 then (if v ≤ 99 then (v) else (v)) else (v))
set_option maxRecDepth 20000 in
theorem s_X8_readNumber_tail {xs : Nat → Int32} {L d : Nat} {h : ev_H} {n p s k v : Int32} {u : Option Value} {f : Nat → Int32} (h3 : h 3 = c3 n p s k v) (h4 : h 4 = c4 f) : EV xs L (d + 1) 0 0 M_X8_readNumber 434 h 66 [some (.ref 3), u] [] (fun sz' h' r => sz' = 434 ∧ h' = va_up h 3 (c3 n p s (nuK f n p s k v) (nuV f n p s k v)) ∧ r = []) := by
  refine r_aload_n rfl dX8_readNumber_66 rfl ?_
  refine r_getv 2 rfl dX8_readNumber_67 (show 2 ≤ 3 ∧ 3 < 434 by decide) h3 fl_X8_28 rfl ?_
  refine r_aload_n rfl dX8_readNumber_70 rfl ?_
  refine r_getv 3 rfl dX8_readNumber_71 (show 2 ≤ 3 ∧ 3 < 434 by decide) h3 fl_X8_25 rfl ?_
  refine r_isub rfl dX8_readNumber_74 ?_
  refine r_iconst (v := 1) rfl dX8_readNumber_75 (by decide) ?_
  refine r_icmp_le (tgt := 96) rfl rfl dX8_readNumber_76 (fun c51 => ?_) (fun c51 => ?_)
  · refine r_iconst (v := 0) rfl dX8_readNumber_96 (by decide) ?_
    refine r_istore_n (ls' := [some (.ref 3), some (.int 0)]) rfl dX8_readNumber_97 (Nat.le_of_ble_eq_true rfl) rfl ?_
    refine r_aload_n rfl dX8_readNumber_98 rfl ?_
    refine r_iload_n rfl dX8_readNumber_99 rfl ?_
    refine r_if_ne (tgt := 112) rfl rfl dX8_readNumber_100 (fun c => absurd c (by decide)) (fun _ => ?_)
    refine r_aload_n rfl dX8_readNumber_103 rfl ?_
    refine r_getv 5 rfl dX8_readNumber_104 (show 2 ≤ 3 ∧ 3 < 434 by decide) h3 fl_X8_22 rfl ?_
    refine r_bipush (v := 99) rfl dX8_readNumber_107 (by decide) ?_
    refine r_icmp_le (tgt := 117) rfl rfl dX8_readNumber_109 (fun c52 => ?_) (fun c52 => ?_)
    · refine r_iconst (v := 4) rfl dX8_readNumber_117 (by decide) ?_
      refine r_putv 4 (fs' := [.ref 4, .int n, .int p, .int s, .int 4, .int v]) rfl dX8_readNumber_118 (show 2 ≤ 3 ∧ 3 < 434 by decide) h3 (fp_X8_19 rfl _) (Nat.le_of_ble_eq_true rfl) rfl (fun h53 eh54 => ?_)
      have f55 : h53 3 = .inr (8, [.ref 4, .int n, .int p, .int s, .int 4, .int v]) := by rw [eh54]; exact va_up_self _ _ _
      have f56 : h53 4 = .inl (2, 300, .inl f) := by rw [eh54, va_up_ne _ _ (fun q => by rw [q, h3] at h4; cases h4)]; exact h4
      subst eh54
      exact r_ret dX8_readNumber_121 (rt_v rfl) ⟨rfl, by simp only [nuK, nuV, if_pos c51, if_pos c52, va_up_up], rfl⟩
    · refine r_bipush (v := 7) rfl dX8_readNumber_112 (by decide) ?_
      refine r_goto (pc' := 118) rfl dX8_readNumber_114 ?_
      refine r_putv 4 (fs' := [.ref 4, .int n, .int p, .int s, .int 7, .int v]) rfl dX8_readNumber_118 (show 2 ≤ 3 ∧ 3 < 434 by decide) h3 (fp_X8_19 rfl _) (Nat.le_of_ble_eq_true rfl) rfl (fun h57 eh58 => ?_)
      have f59 : h57 3 = .inr (8, [.ref 4, .int n, .int p, .int s, .int 7, .int v]) := by rw [eh58]; exact va_up_self _ _ _
      have f60 : h57 4 = .inl (2, 300, .inl f) := by rw [eh58, va_up_ne _ _ (fun q => by rw [q, h3] at h4; cases h4)]; exact h4
      subst eh58
      exact r_ret dX8_readNumber_121 (rt_v rfl) ⟨rfl, by simp only [nuK, nuV, if_pos c51, if_neg c52, va_up_up], rfl⟩
  · refine r_aload_n rfl dX8_readNumber_79 rfl ?_
    refine r_aload_n rfl dX8_readNumber_80 rfl ?_
    refine r_getv 3 rfl dX8_readNumber_81 (show 2 ≤ 3 ∧ 3 < 434 by decide) h3 fl_X8_25 rfl ?_
    refine cl_X8_37 rfl rfl dX8_readNumber_84 (show 2 ≤ 3 ∧ 3 < 434 by decide).1 (show 2 ≤ 3 ∧ 3 < 434 by decide).2 h3 (Nat.le_of_ble_eq_true rfl) (s_X8_byteAt h3 h4) ?_
    rintro _ _ _ ⟨rfl, rfl, rfl⟩
    refine r_bipush (v := 48) rfl dX8_readNumber_87 (by decide) ?_
    refine r_icmp_ne (tgt := 96) rfl rfl dX8_readNumber_89 (fun c61 => ?_) (fun c61 => ?_)
    · refine r_iconst (v := 0) rfl dX8_readNumber_96 (by decide) ?_
      refine r_istore_n (ls' := [some (.ref 3), some (.int 0)]) rfl dX8_readNumber_97 (Nat.le_of_ble_eq_true rfl) rfl ?_
      refine r_aload_n rfl dX8_readNumber_98 rfl ?_
      refine r_iload_n rfl dX8_readNumber_99 rfl ?_
      refine r_if_ne (tgt := 112) rfl rfl dX8_readNumber_100 (fun c => absurd c (by decide)) (fun _ => ?_)
      refine r_aload_n rfl dX8_readNumber_103 rfl ?_
      refine r_getv 5 rfl dX8_readNumber_104 (show 2 ≤ 3 ∧ 3 < 434 by decide) h3 fl_X8_22 rfl ?_
      refine r_bipush (v := 99) rfl dX8_readNumber_107 (by decide) ?_
      refine r_icmp_le (tgt := 117) rfl rfl dX8_readNumber_109 (fun c62 => ?_) (fun c62 => ?_)
      · refine r_iconst (v := 4) rfl dX8_readNumber_117 (by decide) ?_
        refine r_putv 4 (fs' := [.ref 4, .int n, .int p, .int s, .int 4, .int v]) rfl dX8_readNumber_118 (show 2 ≤ 3 ∧ 3 < 434 by decide) h3 (fp_X8_19 rfl _) (Nat.le_of_ble_eq_true rfl) rfl (fun h63 eh64 => ?_)
        have f65 : h63 3 = .inr (8, [.ref 4, .int n, .int p, .int s, .int 4, .int v]) := by rw [eh64]; exact va_up_self _ _ _
        have f66 : h63 4 = .inl (2, 300, .inl f) := by rw [eh64, va_up_ne _ _ (fun q => by rw [q, h3] at h4; cases h4)]; exact h4
        subst eh64
        exact r_ret dX8_readNumber_121 (rt_v rfl) ⟨rfl, by simp only [nuK, nuV, if_neg c51, if_pos c61, if_pos c62, va_up_up], rfl⟩
      · refine r_bipush (v := 7) rfl dX8_readNumber_112 (by decide) ?_
        refine r_goto (pc' := 118) rfl dX8_readNumber_114 ?_
        refine r_putv 4 (fs' := [.ref 4, .int n, .int p, .int s, .int 7, .int v]) rfl dX8_readNumber_118 (show 2 ≤ 3 ∧ 3 < 434 by decide) h3 (fp_X8_19 rfl _) (Nat.le_of_ble_eq_true rfl) rfl (fun h67 eh68 => ?_)
        have f69 : h67 3 = .inr (8, [.ref 4, .int n, .int p, .int s, .int 7, .int v]) := by rw [eh68]; exact va_up_self _ _ _
        have f70 : h67 4 = .inl (2, 300, .inl f) := by rw [eh68, va_up_ne _ _ (fun q => by rw [q, h3] at h4; cases h4)]; exact h4
        subst eh68
        exact r_ret dX8_readNumber_121 (rt_v rfl) ⟨rfl, by simp only [nuK, nuV, if_neg c51, if_pos c61, if_neg c62, va_up_up], rfl⟩
    · refine r_iconst (v := 1) rfl dX8_readNumber_92 (by decide) ?_
      refine r_goto (pc' := 97) rfl dX8_readNumber_93 ?_
      refine r_istore_n (ls' := [some (.ref 3), some (.int 1)]) rfl dX8_readNumber_97 (Nat.le_of_ble_eq_true rfl) rfl ?_
      refine r_aload_n rfl dX8_readNumber_98 rfl ?_
      refine r_iload_n rfl dX8_readNumber_99 rfl ?_
      refine r_if_ne (tgt := 112) rfl rfl dX8_readNumber_100 (fun _ => ?_) (fun c => absurd c (by decide))
      refine r_bipush (v := 7) rfl dX8_readNumber_112 (by decide) ?_
      refine r_goto (pc' := 118) rfl dX8_readNumber_114 ?_
      refine r_putv 4 (fs' := [.ref 4, .int n, .int p, .int s, .int 7, .int v]) rfl dX8_readNumber_118 (show 2 ≤ 3 ∧ 3 < 434 by decide) h3 (fp_X8_19 rfl _) (Nat.le_of_ble_eq_true rfl) rfl (fun h71 eh72 => ?_)
      have f73 : h71 3 = .inr (8, [.ref 4, .int n, .int p, .int s, .int 7, .int v]) := by rw [eh72]; exact va_up_self _ _ _
      have f74 : h71 4 = .inl (2, 300, .inl f) := by rw [eh72, va_up_ne _ _ (fun q => by rw [q, h3] at h4; cases h4)]; exact h4
      subst eh72
      exact r_ret dX8_readNumber_121 (rt_v rfl) ⟨rfl, by simp only [nuK, nuV, if_neg c51, if_neg (not_not_intro c61), va_up_up], rfl⟩
set_option maxRecDepth 20000 in
theorem s_X8_readNumber_loop {xs : Nat → Int32} {L d : Nat} {f : Nat → Int32} {n : Nat} {s k : Int32} {u : Option Value} : ∀ (m p : Nat), p + m = n → n ≤ 300 → ∀ (h : ev_H) (v : Int32) (h3 : h 3 = c3 (nI n) (nI p) s k v) (h4 : h 4 = c4 f), EV xs L (d + 2) 0 0 M_X8_readNumber 434 h 0 [some (.ref 3), u] [] (fun sz' h' r => sz' = 434 ∧ h' = va_up h 3 (c3 (nI n) (nI (nup f n m p)) s (nuK f (nI n) (nI (nup f n m p)) s k (nuv f n m p v)) (nuV f (nI n) (nI (nup f n m p)) s k (nuv f n m p v))) ∧ r = []) := by
  intro m
  induction m with
  | zero =>
    intro p hp hn h v h3 h4
    obtain rfl : n = p := by omega
    refine r_aload_n rfl dX8_readNumber_0 rfl ?_
    refine r_getv 2 rfl dX8_readNumber_1 (show 2 ≤ 3 ∧ 3 < 434 by decide) h3 fl_X8_28 rfl ?_
    refine r_aload_n rfl dX8_readNumber_4 rfl ?_
    refine r_getv 1 rfl dX8_readNumber_5 (show 2 ≤ 3 ∧ 3 < 434 by decide) h3 fl_X8_15 rfl ?_
    refine r_icmp_ge (tgt := 66) rfl rfl dX8_readNumber_8 (fun _ => ?_) (fun c => absurd c (fun z => z (Int32.le_refl _)))
    exact s_X8_readNumber_tail h3 h4
  | succ m ih =>
    intro p hp hn h v h3 h4
    refine r_aload_n rfl dX8_readNumber_0 rfl ?_
    refine r_getv 2 rfl dX8_readNumber_1 (show 2 ≤ 3 ∧ 3 < 434 by decide) h3 fl_X8_28 rfl ?_
    refine r_aload_n rfl dX8_readNumber_4 rfl ?_
    refine r_getv 1 rfl dX8_readNumber_5 (show 2 ≤ 3 ∧ 3 < 434 by decide) h3 fl_X8_15 rfl ?_
    refine r_icmp_ge (tgt := 66) rfl rfl dX8_readNumber_8 (fun c => absurd c (nI_ge (a := p) (b := n) (by omega) (by omega))) (fun _ => ?_)
    refine r_aload_n rfl dX8_readNumber_11 rfl ?_
    refine r_aload_n rfl dX8_readNumber_12 rfl ?_
    refine r_getv 2 rfl dX8_readNumber_13 (show 2 ≤ 3 ∧ 3 < 434 by decide) h3 fl_X8_28 rfl ?_
    refine cl_X8_37 rfl rfl dX8_readNumber_16 (show 2 ≤ 3 ∧ 3 < 434 by decide).1 (show 2 ≤ 3 ∧ 3 < 434 by decide).2 h3 (Nat.le_of_ble_eq_true rfl) (s_X8_byteAt h3 h4) ?_
    rintro _ _ _ ⟨rfl, rfl, rfl⟩
    refine cl_X8_48 rfl rfl dX8_readNumber_19 (Nat.le_of_ble_eq_true rfl) s_X8_isDigit ?_
    rintro _ _ _ ⟨rfl, rfl, rfl⟩
    refine r_if_eq (tgt := 66) rfl rfl dX8_readNumber_22 (fun c301 => ?_) (fun c301 => ?_)
    · refine EV.post ?_ (s_X8_readNumber_tail h3 h4)
      rintro _ _ _ ⟨rfl, rfl, rfl⟩
      exact ⟨rfl, by rw [nup, nuv, if_pos c301, if_pos c301], rfl⟩
    · refine r_aload_n rfl dX8_readNumber_25 rfl ?_
      refine r_bipush (v := 10) rfl dX8_readNumber_26 (by decide) ?_
      refine r_aload_n rfl dX8_readNumber_28 rfl ?_
      refine r_getv 5 rfl dX8_readNumber_29 (show 2 ≤ 3 ∧ 3 < 434 by decide) h3 fl_X8_22 rfl ?_
      refine r_imul rfl dX8_readNumber_32 ?_
      refine r_aload_n rfl dX8_readNumber_33 rfl ?_
      refine r_aload_n rfl dX8_readNumber_34 rfl ?_
      refine r_getv 2 rfl dX8_readNumber_35 (show 2 ≤ 3 ∧ 3 < 434 by decide) h3 fl_X8_28 rfl ?_
      refine cl_X8_37 rfl rfl dX8_readNumber_38 (show 2 ≤ 3 ∧ 3 < 434 by decide).1 (show 2 ≤ 3 ∧ 3 < 434 by decide).2 h3 (Nat.le_of_ble_eq_true rfl) (s_X8_byteAt h3 h4) ?_
      rintro _ _ _ ⟨rfl, rfl, rfl⟩
      refine r_iadd rfl dX8_readNumber_41 ?_
      refine r_bipush (v := 48) rfl dX8_readNumber_42 (by decide) ?_
      refine r_isub rfl dX8_readNumber_44 ?_
      refine r_bipush (v := 100) rfl dX8_readNumber_45 (by decide) ?_
      refine r_min rfl dX8_readNumber_47 (Nat.succ_pos _) (Nat.le_of_ble_eq_true rfl) mm_X8_57 mm_st mm_in mm_co ?_
      refine r_topi (fun x302 e303 => ?_)
      refine r_putv 5 (fs' := [.ref 4, .int (nI n), .int (nI p), .int s, .int k, .int x302]) rfl dX8_readNumber_50 (show 2 ≤ 3 ∧ 3 < 434 by decide) h3 (fp_X8_22 rfl _) (Nat.le_of_ble_eq_true rfl) rfl (fun h304 eh305 => ?_)
      have f306 : h304 3 = .inr (8, [.ref 4, .int (nI n), .int (nI p), .int s, .int k, .int x302]) := by rw [eh305]; exact va_up_self _ _ _
      have f307 : h304 4 = .inl (2, 300, .inl f) := by rw [eh305, va_up_ne _ _ (fun q => by rw [q, h3] at h4; cases h4)]; exact h4
      refine r_aload_n rfl dX8_readNumber_53 rfl ?_
      refine r_dup rfl dX8_readNumber_54 rfl ?_
      refine r_getv 2 rfl dX8_readNumber_55 (show 2 ≤ 3 ∧ 3 < 434 by decide) f306 fl_X8_28 rfl ?_
      refine r_iconst (v := 1) rfl dX8_readNumber_58 (by decide) ?_
      refine r_iadd rfl dX8_readNumber_59 ?_
      refine r_eqi (y := nI (p + 1)) (nI_1 p) ?_
      refine r_putv 2 (fs' := [.ref 4, .int (nI n), .int (nI (p + 1)), .int s, .int k, .int x302]) rfl dX8_readNumber_60 (show 2 ≤ 3 ∧ 3 < 434 by decide) f306 (fp_X8_28 rfl _) (Nat.le_of_ble_eq_true rfl) rfl (fun h308 eh309 => ?_)
      have f310 : h308 3 = .inr (8, [.ref 4, .int (nI n), .int (nI (p + 1)), .int s, .int k, .int x302]) := by rw [eh309]; exact va_up_self _ _ _
      have f311 : h308 4 = .inl (2, 300, .inl f) := by rw [eh309, va_up_ne _ _ (fun q => by rw [q, f306] at f307; cases f307)]; exact f307
      refine r_goto (pc' := 0) rfl dX8_readNumber_63 ?_
      refine EV.post ?_ (ih (p + 1) (by omega) hn h308 x302 f310 f311)
      subst e303
      subst eh309
      subst eh305
      rintro _ _ _ ⟨rfl, rfl, rfl⟩
      exact ⟨rfl, by rw [nup, nuv, if_neg c301, if_neg c301]; simp only [va_up_up], rfl⟩
