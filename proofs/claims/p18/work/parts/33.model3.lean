theorem dX12_byteAt_0 : decode cX12_byteAt 0 = .ok (.iload_n 1, 1) := by decide +kernel
theorem dX12_byteAt_1 : decode cX12_byteAt 1 = .ok (.aload_n 0, 1) := by decide +kernel
theorem dX12_byteAt_2 : decode cX12_byteAt 2 = .ok (.getfield 64, 3) := by decide +kernel
theorem dX12_byteAt_5 : decode cX12_byteAt 5 = .ok (.if_icmp .ge 12, 3) := by decide +kernel
theorem dX12_byteAt_8 : decode cX12_byteAt 8 = .ok (.aload_n 0, 1) := by decide +kernel
theorem dX12_byteAt_9 : decode cX12_byteAt 9 = .ok (.getfield 7, 3) := by decide +kernel
theorem dX12_byteAt_12 : decode cX12_byteAt 12 = .ok (.iload_n 1, 1) := by decide +kernel
theorem dX12_byteAt_13 : decode cX12_byteAt 13 = .ok (.iaload, 1) := by decide +kernel
theorem dX12_byteAt_14 : decode cX12_byteAt 14 = .ok (.goto 4, 3) := by decide +kernel
theorem dX12_byteAt_17 : decode cX12_byteAt 17 = .ok (.iconst (-1), 1) := by decide +kernel
theorem dX12_byteAt_18 : decode cX12_byteAt 18 = .ok (.ireturn, 1) := by decide +kernel
theorem dX12_word_0 : decode cX12_word 0 = .ok (.aload_n 0, 1) := by decide +kernel
theorem dX12_word_1 : decode cX12_word 1 = .ok (.getfield 7, 3) := by decide +kernel
theorem dX12_word_4 : decode cX12_word 4 = .ok (.aload_n 0, 1) := by decide +kernel
theorem dX12_word_5 : decode cX12_word 5 = .ok (.getfield 69, 3) := by decide +kernel
theorem dX12_word_8 : decode cX12_word 8 = .ok (.iaload, 1) := by decide +kernel
theorem dX12_word_9 : decode cX12_word 9 = .ok (.istore_n 2, 1) := by decide +kernel
theorem dX12_word_10 : decode cX12_word 10 = .ok (.aload_n 0, 1) := by decide +kernel
theorem dX12_word_11 : decode cX12_word 11 = .ok (.aload_n 0, 1) := by decide +kernel
theorem dX12_word_12 : decode cX12_word 12 = .ok (.getfield 69, 3) := by decide +kernel
theorem dX12_word_15 : decode cX12_word 15 = .ok (.iconst 1, 1) := by decide +kernel
theorem dX12_word_16 : decode cX12_word 16 = .ok (.iadd, 1) := by decide +kernel
theorem dX12_word_17 : decode cX12_word 17 = .ok (.invokevirtual 72, 3) := by decide +kernel
theorem dX12_word_20 : decode cX12_word 20 = .ok (.istore_n 3, 1) := by decide +kernel
theorem dX12_word_21 : decode cX12_word 21 = .ok (.aload_n 0, 1) := by decide +kernel
theorem dX12_word_22 : decode cX12_word 22 = .ok (.aload_n 0, 1) := by decide +kernel
theorem dX12_word_23 : decode cX12_word 23 = .ok (.getfield 69, 3) := by decide +kernel
theorem dX12_word_26 : decode cX12_word 26 = .ok (.iconst 2, 1) := by decide +kernel
theorem dX12_word_27 : decode cX12_word 27 = .ok (.iadd, 1) := by decide +kernel
theorem dX12_word_28 : decode cX12_word 28 = .ok (.invokevirtual 72, 3) := by decide +kernel
theorem dX12_word_31 : decode cX12_word 31 = .ok (.istore 4, 2) := by decide +kernel
theorem dX12_word_33 : decode cX12_word 33 = .ok (.aload_n 0, 1) := by decide +kernel
theorem dX12_word_34 : decode cX12_word 34 = .ok (.bipush 7, 2) := by decide +kernel
theorem dX12_word_36 : decode cX12_word 36 = .ok (.putfield 76, 3) := by decide +kernel
theorem dX12_word_39 : decode cX12_word 39 = .ok (.iload_n 1, 1) := by decide +kernel
theorem dX12_word_40 : decode cX12_word 40 = .ok (.iconst 1, 1) := by decide +kernel
theorem dX12_word_41 : decode cX12_word 41 = .ok (.if_icmp .ne 25, 3) := by decide +kernel
theorem dX12_word_44 : decode cX12_word 44 = .ok (.iload_n 2, 1) := by decide +kernel
theorem dX12_word_45 : decode cX12_word 45 = .ok (.bipush 104, 2) := by decide +kernel
theorem dX12_word_47 : decode cX12_word 47 = .ok (.if_icmp .gt 19, 3) := by decide +kernel
theorem dX12_word_50 : decode cX12_word 50 = .ok (.aload_n 0, 1) := by decide +kernel
theorem dX12_word_51 : decode cX12_word 51 = .ok (.iconst 1, 1) := by decide +kernel
theorem dX12_word_52 : decode cX12_word 52 = .ok (.putfield 76, 3) := by decide +kernel
theorem dX12_word_55 : decode cX12_word 55 = .ok (.aload_n 0, 1) := by decide +kernel
theorem dX12_word_56 : decode cX12_word 56 = .ok (.iload_n 2, 1) := by decide +kernel
theorem dX12_word_57 : decode cX12_word 57 = .ok (.bipush 97, 2) := by decide +kernel
theorem dX12_word_59 : decode cX12_word 59 = .ok (.isub, 1) := by decide +kernel
theorem dX12_word_60 : decode cX12_word 60 = .ok (.putfield 79, 3) := by decide +kernel
theorem dX12_word_63 : decode cX12_word 63 = .ok (.goto 106, 3) := by decide +kernel
theorem dX12_word_66 : decode cX12_word 66 = .ok (.iload_n 1, 1) := by decide +kernel
theorem dX12_word_67 : decode cX12_word 67 = .ok (.iconst 3, 1) := by decide +kernel
theorem dX12_word_68 : decode cX12_word 68 = .ok (.if_icmp .ne 35, 3) := by decide +kernel
theorem dX12_word_71 : decode cX12_word 71 = .ok (.iload_n 2, 1) := by decide +kernel
theorem dX12_word_72 : decode cX12_word 72 = .ok (.bipush 111, 2) := by decide +kernel
theorem dX12_word_74 : decode cX12_word 74 = .ok (.if_icmp .ne 29, 3) := by decide +kernel
theorem dX12_word_77 : decode cX12_word 77 = .ok (.iload_n 3, 1) := by decide +kernel
theorem dX12_word_78 : decode cX12_word 78 = .ok (.bipush 110, 2) := by decide +kernel
theorem dX12_word_80 : decode cX12_word 80 = .ok (.if_icmp .ne 23, 3) := by decide +kernel
theorem dX12_word_83 : decode cX12_word 83 = .ok (.iload 4, 2) := by decide +kernel
theorem dX12_word_85 : decode cX12_word 85 = .ok (.bipush 101, 2) := by decide +kernel
theorem dX12_word_87 : decode cX12_word 87 = .ok (.if_icmp .ne 16, 3) := by decide +kernel
theorem dX12_word_90 : decode cX12_word 90 = .ok (.aload_n 0, 1) := by decide +kernel
theorem dX12_word_91 : decode cX12_word 91 = .ok (.iconst 2, 1) := by decide +kernel
theorem dX12_word_92 : decode cX12_word 92 = .ok (.putfield 76, 3) := by decide +kernel
theorem dX12_word_95 : decode cX12_word 95 = .ok (.aload_n 0, 1) := by decide +kernel
theorem dX12_word_96 : decode cX12_word 96 = .ok (.iconst 1, 1) := by decide +kernel
theorem dX12_word_97 : decode cX12_word 97 = .ok (.putfield 79, 3) := by decide +kernel
theorem dX12_word_100 : decode cX12_word 100 = .ok (.goto 69, 3) := by decide +kernel
theorem dX12_word_103 : decode cX12_word 103 = .ok (.iload_n 1, 1) := by decide +kernel
theorem dX12_word_104 : decode cX12_word 104 = .ok (.iconst 3, 1) := by decide +kernel
theorem dX12_word_105 : decode cX12_word 105 = .ok (.if_icmp .ne 35, 3) := by decide +kernel
theorem dX12_word_108 : decode cX12_word 108 = .ok (.iload_n 2, 1) := by decide +kernel
theorem dX12_word_109 : decode cX12_word 109 = .ok (.bipush 116, 2) := by decide +kernel
theorem dX12_word_111 : decode cX12_word 111 = .ok (.if_icmp .ne 29, 3) := by decide +kernel
theorem dX12_word_114 : decode cX12_word 114 = .ok (.iload_n 3, 1) := by decide +kernel
theorem dX12_word_115 : decode cX12_word 115 = .ok (.bipush 119, 2) := by decide +kernel
theorem dX12_word_117 : decode cX12_word 117 = .ok (.if_icmp .ne 23, 3) := by decide +kernel
theorem dX12_word_120 : decode cX12_word 120 = .ok (.iload 4, 2) := by decide +kernel
theorem dX12_word_122 : decode cX12_word 122 = .ok (.bipush 111, 2) := by decide +kernel
theorem dX12_word_124 : decode cX12_word 124 = .ok (.if_icmp .ne 16, 3) := by decide +kernel
theorem dX12_word_127 : decode cX12_word 127 = .ok (.aload_n 0, 1) := by decide +kernel
theorem dX12_word_128 : decode cX12_word 128 = .ok (.iconst 2, 1) := by decide +kernel
theorem dX12_word_129 : decode cX12_word 129 = .ok (.putfield 76, 3) := by decide +kernel
theorem dX12_word_132 : decode cX12_word 132 = .ok (.aload_n 0, 1) := by decide +kernel
theorem dX12_word_133 : decode cX12_word 133 = .ok (.iconst 2, 1) := by decide +kernel
theorem dX12_word_134 : decode cX12_word 134 = .ok (.putfield 79, 3) := by decide +kernel
theorem dX12_word_137 : decode cX12_word 137 = .ok (.goto 32, 3) := by decide +kernel
theorem dX12_word_140 : decode cX12_word 140 = .ok (.iload_n 1, 1) := by decide +kernel
theorem dX12_word_141 : decode cX12_word 141 = .ok (.iconst 3, 1) := by decide +kernel
theorem dX12_word_142 : decode cX12_word 142 = .ok (.if_icmp .ne 27, 3) := by decide +kernel
theorem dX12_word_145 : decode cX12_word 145 = .ok (.iload_n 2, 1) := by decide +kernel
theorem dX12_word_146 : decode cX12_word 146 = .ok (.bipush 99, 2) := by decide +kernel
theorem dX12_word_148 : decode cX12_word 148 = .ok (.if_icmp .ne 21, 3) := by decide +kernel
theorem dX12_word_151 : decode cX12_word 151 = .ok (.iload_n 3, 1) := by decide +kernel
theorem dX12_word_152 : decode cX12_word 152 = .ok (.bipush 117, 2) := by decide +kernel
theorem dX12_word_154 : decode cX12_word 154 = .ok (.if_icmp .ne 15, 3) := by decide +kernel
theorem dX12_word_157 : decode cX12_word 157 = .ok (.iload 4, 2) := by decide +kernel
theorem dX12_word_159 : decode cX12_word 159 = .ok (.bipush 116, 2) := by decide +kernel
theorem dX12_word_161 : decode cX12_word 161 = .ok (.if_icmp .ne 8, 3) := by decide +kernel
theorem dX12_word_164 : decode cX12_word 164 = .ok (.aload_n 0, 1) := by decide +kernel
theorem dX12_word_165 : decode cX12_word 165 = .ok (.iconst 3, 1) := by decide +kernel
theorem dX12_word_166 : decode cX12_word 166 = .ok (.putfield 76, 3) := by decide +kernel
theorem dX12_word_169 : decode cX12_word 169 = .ok (.return_, 1) := by decide +kernel
/-- the reference's byte at q; -1 behind the text -/
def mbA (g : Nat → Int32) (n q : Nat) : Int32 := if n ≤ q then -1 else g q
set_option maxRecDepth 20000 in
theorem s_X12_byteAt {xs : Nat → Int32} {L d : Nat} {h : ev_H} {th : Int32} {tr : Int64} {nx tk pl va fa cl md ss wg : Int32} {g : Nat → Int32} {n q : Nat} (hn : n ≤ 300) (hq : q ≤ 1000) (h5 : h 420 = c420 th tr (nI n) nx tk pl va fa cl md ss wg) (h6 : h 421 = c421 g) : EV xs L (d + 0) 0 0 M_X12_byteAt 434 h 0 [some (.ref 420), some (.int (nI q))] [] (fun sz' h' r => sz' = 434 ∧ h' = h ∧ r = [.int (mbA g n q)]) := by
  refine r_iload_n rfl dX12_byteAt_0 rfl ?_
  refine r_aload_n rfl dX12_byteAt_1 rfl ?_
  refine r_getv 3 rfl dX12_byteAt_2 (show 2 ≤ 420 ∧ 420 < 434 by decide) h5 fl_X12_64 rfl ?_
  refine r_icmp_ge (tgt := 17) rfl rfl dX12_byteAt_5 (fun c51 => ?_) (fun c51 => ?_)
  · refine r_iconst (v := (-1)) rfl dX12_byteAt_17 (by decide) ?_
    exact r_ret dX12_byteAt_18 (rt_i rfl) ⟨rfl, rfl, by unfold mbA; rw [if_pos ((nI_leI (by omega) (by omega)).mp c51)] <;> rfl⟩
  · refine r_aload_n rfl dX12_byteAt_8 rfl ?_
    refine r_getv 2 rfl dX12_byteAt_9 (show 2 ≤ 420 ∧ 420 < 434 by decide) h5 fl_X12_7 rfl ?_
    refine r_iload_n rfl dX12_byteAt_12 rfl ?_
    refine r_ialdv (jn := q) (v := g q) rfl dX12_byteAt_13 (show 2 ≤ 421 ∧ 421 < 434 by decide) h6 (vp_in_nI (show q < 300 by have := Nat.not_le.mp (fun z => c51 (nI_le z (by omega))); omega) (by decide)) (nI_clamp (by omega)) rfl ?_
    refine r_goto (pc' := 18) rfl dX12_byteAt_14 ?_
    exact r_ret dX12_byteAt_18 (rt_i rfl) ⟨rfl, rfl, by unfold mbA; rw [if_neg (fun z => c51 (nI_le z (by omega)))] <;> rfl⟩
def mwK (g : Nat → Int32) (n q : Nat) (z va : Int32) : Int32 := if ¬ z = 1 then (if ¬ z = 3 then (7) else (if ¬ (g q) = 111 then (if ¬ (g q) = 116 then (if ¬ (g q) = 99 then (7) else (if ¬ (mbA g n (q + 1)) = 117 then (7) else (if ¬ (mbA g n (q + 2)) = 116 then (7) else (3)))) else (if ¬ (mbA g n (q + 1)) = 119 then (if ¬ (g q) = 99 then (7) else (if ¬ (mbA g n (q + 1)) = 117 then (7) else (if ¬ (mbA g n (q + 2)) = 116 then (7) else (3)))) else (if ¬ (mbA g n (q + 2)) = 111 then (if ¬ (g q) = 99 then (7) else (if ¬ (mbA g n (q + 1)) = 117 then (7) else (if ¬ (mbA g n (q + 2)) = 116 then (7) else (3)))) else (2)))) else (if ¬ (mbA g n (q + 1)) = 110 then (if ¬ (g q) = 116 then (if ¬ (g q) = 99 then (7) else (if ¬ (mbA g n (q + 1)) = 117 then (7) else (if ¬ (mbA g n (q + 2)) = 116 then (7) else (3)))) else (if ¬ (mbA g n (q + 1)) = 119 then (if ¬ (g q) = 99 then (7) else (if ¬ (mbA g n (q + 1)) = 117 then (7) else (if ¬ (mbA g n (q + 2)) = 116 then (7) else (3)))) else (if ¬ (mbA g n (q + 2)) = 111 then (if ¬ (g q) = 99 then (7) else (if ¬ (mbA g n (q + 1)) = 117 then (7) else (if ¬ (mbA g n (q + 2)) = 116 then (7) else (3)))) else (2)))) else (if ¬ (mbA g n (q + 2)) = 101 then (if ¬ (g q) = 116 then (if ¬ (g q) = 99 then (7) else (if ¬ (mbA g n (q + 1)) = 117 then (7) else (if ¬ (mbA g n (q + 2)) = 116 then (7) else (3)))) else (if ¬ (mbA g n (q + 1)) = 119 then (if ¬ (g q) = 99 then (7) else (if ¬ (mbA g n (q + 1)) = 117 then (7) else (if ¬ (mbA g n (q + 2)) = 116 then (7) else (3)))) else (if ¬ (mbA g n (q + 2)) = 111 then (if ¬ (g q) = 99 then (7) else (if ¬ (mbA g n (q + 1)) = 117 then (7) else (if ¬ (mbA g n (q + 2)) = 116 then (7) else (3)))) else (2)))) else (2))))) else (if 104 < (g q) then (if ¬ z = 3 then (7) else (if ¬ (g q) = 111 then (if ¬ (g q) = 116 then (if ¬ (g q) = 99 then (7) else (if ¬ (mbA g n (q + 1)) = 117 then (7) else (if ¬ (mbA g n (q + 2)) = 116 then (7) else (3)))) else (if ¬ (mbA g n (q + 1)) = 119 then (if ¬ (g q) = 99 then (7) else (if ¬ (mbA g n (q + 1)) = 117 then (7) else (if ¬ (mbA g n (q + 2)) = 116 then (7) else (3)))) else (if ¬ (mbA g n (q + 2)) = 111 then (if ¬ (g q) = 99 then (7) else (if ¬ (mbA g n (q + 1)) = 117 then (7) else (if ¬ (mbA g n (q + 2)) = 116 then (7) else (3)))) else (2)))) else (if ¬ (mbA g n (q + 1)) = 110 then (if ¬ (g q) = 116 then (if ¬ (g q) = 99 then (7) else (if ¬ (mbA g n (q + 1)) = 117 then (7) else (if ¬ (mbA g n (q + 2)) = 116 then (7) else (3)))) else (if ¬ (mbA g n (q + 1)) = 119 then (if ¬ (g q) = 99 then (7) else (if ¬ (mbA g n (q + 1)) = 117 then (7) else (if ¬ (mbA g n (q + 2)) = 116 then (7) else (3)))) else (if ¬ (mbA g n (q + 2)) = 111 then (if ¬ (g q) = 99 then (7) else (if ¬ (mbA g n (q + 1)) = 117 then (7) else (if ¬ (mbA g n (q + 2)) = 116 then (7) else (3)))) else (2)))) else (if ¬ (mbA g n (q + 2)) = 101 then (if ¬ (g q) = 116 then (if ¬ (g q) = 99 then (7) else (if ¬ (mbA g n (q + 1)) = 117 then (7) else (if ¬ (mbA g n (q + 2)) = 116 then (7) else (3)))) else (if ¬ (mbA g n (q + 1)) = 119 then (if ¬ (g q) = 99 then (7) else (if ¬ (mbA g n (q + 1)) = 117 then (7) else (if ¬ (mbA g n (q + 2)) = 116 then (7) else (3)))) else (if ¬ (mbA g n (q + 2)) = 111 then (if ¬ (g q) = 99 then (7) else (if ¬ (mbA g n (q + 1)) = 117 then (7) else (if ¬ (mbA g n (q + 2)) = 116 then (7) else (3)))) else (2)))) else (2))))) else (1))
def mwV (g : Nat → Int32) (n q : Nat) (z va : Int32) : Int32 := if ¬ z = 1 then (if ¬ z = 3 then (va) else (if ¬ (g q) = 111 then (if ¬ (g q) = 116 then (if ¬ (g q) = 99 then (va) else (if ¬ (mbA g n (q + 1)) = 117 then (va) else (if ¬ (mbA g n (q + 2)) = 116 then (va) else (va)))) else (if ¬ (mbA g n (q + 1)) = 119 then (if ¬ (g q) = 99 then (va) else (if ¬ (mbA g n (q + 1)) = 117 then (va) else (if ¬ (mbA g n (q + 2)) = 116 then (va) else (va)))) else (if ¬ (mbA g n (q + 2)) = 111 then (if ¬ (g q) = 99 then (va) else (if ¬ (mbA g n (q + 1)) = 117 then (va) else (if ¬ (mbA g n (q + 2)) = 116 then (va) else (va)))) else (2)))) else (if ¬ (mbA g n (q + 1)) = 110 then (if ¬ (g q) = 116 then (if ¬ (g q) = 99 then (va) else (if ¬ (mbA g n (q + 1)) = 117 then (va) else (if ¬ (mbA g n (q + 2)) = 116 then (va) else (va)))) else (if ¬ (mbA g n (q + 1)) = 119 then (if ¬ (g q) = 99 then (va) else (if ¬ (mbA g n (q + 1)) = 117 then (va) else (if ¬ (mbA g n (q + 2)) = 116 then (va) else (va)))) else (if ¬ (mbA g n (q + 2)) = 111 then (if ¬ (g q) = 99 then (va) else (if ¬ (mbA g n (q + 1)) = 117 then (va) else (if ¬ (mbA g n (q + 2)) = 116 then (va) else (va)))) else (2)))) else (if ¬ (mbA g n (q + 2)) = 101 then (if ¬ (g q) = 116 then (if ¬ (g q) = 99 then (va) else (if ¬ (mbA g n (q + 1)) = 117 then (va) else (if ¬ (mbA g n (q + 2)) = 116 then (va) else (va)))) else (if ¬ (mbA g n (q + 1)) = 119 then (if ¬ (g q) = 99 then (va) else (if ¬ (mbA g n (q + 1)) = 117 then (va) else (if ¬ (mbA g n (q + 2)) = 116 then (va) else (va)))) else (if ¬ (mbA g n (q + 2)) = 111 then (if ¬ (g q) = 99 then (va) else (if ¬ (mbA g n (q + 1)) = 117 then (va) else (if ¬ (mbA g n (q + 2)) = 116 then (va) else (va)))) else (2)))) else (1))))) else (if 104 < (g q) then (if ¬ z = 3 then (va) else (if ¬ (g q) = 111 then (if ¬ (g q) = 116 then (if ¬ (g q) = 99 then (va) else (if ¬ (mbA g n (q + 1)) = 117 then (va) else (if ¬ (mbA g n (q + 2)) = 116 then (va) else (va)))) else (if ¬ (mbA g n (q + 1)) = 119 then (if ¬ (g q) = 99 then (va) else (if ¬ (mbA g n (q + 1)) = 117 then (va) else (if ¬ (mbA g n (q + 2)) = 116 then (va) else (va)))) else (if ¬ (mbA g n (q + 2)) = 111 then (if ¬ (g q) = 99 then (va) else (if ¬ (mbA g n (q + 1)) = 117 then (va) else (if ¬ (mbA g n (q + 2)) = 116 then (va) else (va)))) else (2)))) else (if ¬ (mbA g n (q + 1)) = 110 then (if ¬ (g q) = 116 then (if ¬ (g q) = 99 then (va) else (if ¬ (mbA g n (q + 1)) = 117 then (va) else (if ¬ (mbA g n (q + 2)) = 116 then (va) else (va)))) else (if ¬ (mbA g n (q + 1)) = 119 then (if ¬ (g q) = 99 then (va) else (if ¬ (mbA g n (q + 1)) = 117 then (va) else (if ¬ (mbA g n (q + 2)) = 116 then (va) else (va)))) else (if ¬ (mbA g n (q + 2)) = 111 then (if ¬ (g q) = 99 then (va) else (if ¬ (mbA g n (q + 1)) = 117 then (va) else (if ¬ (mbA g n (q + 2)) = 116 then (va) else (va)))) else (2)))) else (if ¬ (mbA g n (q + 2)) = 101 then (if ¬ (g q) = 116 then (if ¬ (g q) = 99 then (va) else (if ¬ (mbA g n (q + 1)) = 117 then (va) else (if ¬ (mbA g n (q + 2)) = 116 then (va) else (va)))) else (if ¬ (mbA g n (q + 1)) = 119 then (if ¬ (g q) = 99 then (va) else (if ¬ (mbA g n (q + 1)) = 117 then (va) else (if ¬ (mbA g n (q + 2)) = 116 then (va) else (va)))) else (if ¬ (mbA g n (q + 2)) = 111 then (if ¬ (g q) = 99 then (va) else (if ¬ (mbA g n (q + 1)) = 117 then (va) else (if ¬ (mbA g n (q + 2)) = 116 then (va) else (va)))) else (2)))) else (1))))) else (((g q) - 97)))
set_option maxRecDepth 20000 in
theorem s_X12_word {xs : Nat → Int32} {L d : Nat} {h : ev_H} {th : Int32} {tr : Int64} {nx tk va fa cl md ss wg z : Int32} {g : Nat → Int32} {n q : Nat} (hn : n ≤ 300) (hq : q < n) (h5 : h 420 = c420 th tr (nI n) nx tk (nI q) va fa cl md ss wg) (h6 : h 421 = c421 g) : EV xs L (d + 1) 0 0 M_X12_word 434 h 0 [some (.ref 420), some (.int z), none, none, none] [] (fun sz' h' r => sz' = 434 ∧ h' = va_up h 420 (c420 th tr (nI n) nx (mwK g n q z va) (nI q) (mwV g n q z va) fa cl md ss wg) ∧ r = []) := by
  refine r_aload_n rfl dX12_word_0 rfl ?_
  refine r_getv 2 rfl dX12_word_1 (show 2 ≤ 420 ∧ 420 < 434 by decide) h5 fl_X12_7 rfl ?_
  refine r_aload_n rfl dX12_word_4 rfl ?_
  refine r_getv 6 rfl dX12_word_5 (show 2 ≤ 420 ∧ 420 < 434 by decide) h5 fl_X12_69 rfl ?_
  refine r_ialdv (jn := q) (v := g q) rfl dX12_word_8 (show 2 ≤ 421 ∧ 421 < 434 by decide) h6 (vp_in_nI (show q < 300 by omega) (by decide)) (nI_clamp (by omega)) rfl ?_
  refine r_topi (fun x51 e52 => ?_)
  refine r_istore_n (ls' := [some (.ref 420), some (.int z), some (.int x51), none, none]) rfl dX12_word_9 (Nat.le_of_ble_eq_true rfl) rfl ?_
  refine r_aload_n rfl dX12_word_10 rfl ?_
  refine r_aload_n rfl dX12_word_11 rfl ?_
  refine r_getv 6 rfl dX12_word_12 (show 2 ≤ 420 ∧ 420 < 434 by decide) h5 fl_X12_69 rfl ?_
  refine r_iconst (v := 1) rfl dX12_word_15 (by decide) ?_
  refine r_iadd rfl dX12_word_16 ?_
  refine r_eqi (y := nI (q + 1)) (nI_1 q) ?_
  refine cl_X12_72 rfl rfl dX12_word_17 (show 2 ≤ 420 ∧ 420 < 434 by decide).1 (show 2 ≤ 420 ∧ 420 < 434 by decide).2 h5 (Nat.le_of_ble_eq_true rfl) (s_X12_byteAt (q := q + 1) hn (by omega) h5 h6) ?_
  rintro _ h53 _ ⟨rfl, e54, rfl⟩
  replace e54 := e54.symm
  subst e54
  refine r_topi (fun x55 e56 => ?_)
  refine r_istore_n (ls' := [some (.ref 420), some (.int z), some (.int x51), some (.int x55), none]) rfl dX12_word_20 (Nat.le_of_ble_eq_true rfl) rfl ?_
  refine r_aload_n rfl dX12_word_21 rfl ?_
  refine r_aload_n rfl dX12_word_22 rfl ?_
  refine r_getv 6 rfl dX12_word_23 (show 2 ≤ 420 ∧ 420 < 434 by decide) h5 fl_X12_69 rfl ?_
  refine r_iconst (v := 2) rfl dX12_word_26 (by decide) ?_
  refine r_iadd rfl dX12_word_27 ?_
  refine r_eqi (y := nI (q + 2)) (show nI q + 2 = nI (q + 2) from nI_add q 2) ?_
  refine cl_X12_72 rfl rfl dX12_word_28 (show 2 ≤ 420 ∧ 420 < 434 by decide).1 (show 2 ≤ 420 ∧ 420 < 434 by decide).2 h5 (Nat.le_of_ble_eq_true rfl) (s_X12_byteAt (q := q + 2) hn (by omega) h5 h6) ?_
  rintro _ h57 _ ⟨rfl, e58, rfl⟩
  replace e58 := e58.symm
  subst e58
  refine r_topi (fun x59 e60 => ?_)
  refine r_istore (ls' := [some (.ref 420), some (.int z), some (.int x51), some (.int x55), some (.int x59)]) rfl dX12_word_31 (Nat.le_of_ble_eq_true rfl) rfl ?_
  refine r_aload_n rfl dX12_word_33 rfl ?_
  refine r_bipush (v := 7) rfl dX12_word_34 (by decide) ?_
  refine r_putv 5 (fs' := [.int th, .long tr, .ref 421, .int (nI n), .int nx, .int 7, .int (nI q), .int va, .int fa, .int cl, .int md, .int ss, .int wg, .ref 422, .ref 423, .ref 424, .ref 425, .ref 426, .ref 427, .ref 428, .ref 429, .ref 430, .ref 431, .ref 432, .ref 433]) rfl dX12_word_36 (show 2 ≤ 420 ∧ 420 < 434 by decide) h5 (fp_X12_76 rfl _) (Nat.le_of_ble_eq_true rfl) rfl (fun h61 eh62 => ?_)
  have f63 : h61 420 = .inr (12, [.int th, .long tr, .ref 421, .int (nI n), .int nx, .int 7, .int (nI q), .int va, .int fa, .int cl, .int md, .int ss, .int wg, .ref 422, .ref 423, .ref 424, .ref 425, .ref 426, .ref 427, .ref 428, .ref 429, .ref 430, .ref 431, .ref 432, .ref 433]) := by rw [eh62]; exact va_up_self _ _ _
  have f64 : h61 421 = .inl (0, 300, .inl g) := by rw [eh62, va_up_ne _ _ (fun q => by rw [q, h5] at h6; cases h6)]; exact h6
  refine r_iload_n rfl dX12_word_39 rfl ?_
  refine r_iconst (v := 1) rfl dX12_word_40 (by decide) ?_
  refine r_icmp_ne (tgt := 66) rfl rfl dX12_word_41 (fun c65 => ?_) (fun c65 => ?_)
  · refine r_iload_n rfl dX12_word_66 rfl ?_
    refine r_iconst (v := 3) rfl dX12_word_67 (by decide) ?_
    refine r_icmp_ne (tgt := 103) rfl rfl dX12_word_68 (fun c66 => ?_) (fun c66 => ?_)
    · refine r_iload_n rfl dX12_word_103 rfl ?_
      refine r_iconst (v := 3) rfl dX12_word_104 (by decide) ?_
      refine r_icmp_ne (tgt := 140) rfl rfl dX12_word_105 (fun _ => ?_) (fun c => absurd c (by first | exact c66 | exact fun z => z c66))
      refine r_iload_n rfl dX12_word_140 rfl ?_
      refine r_iconst (v := 3) rfl dX12_word_141 (by decide) ?_
      refine r_icmp_ne (tgt := 169) rfl rfl dX12_word_142 (fun _ => ?_) (fun c => absurd c (by first | exact c66 | exact fun z => z c66))
      subst e60
      subst e56
      subst e52
      subst eh62
      exact r_ret dX12_word_169 (rt_v rfl) ⟨rfl, by simp only [mwK, mwV, if_pos c65, if_pos c66, va_up_up], rfl⟩
    · refine r_iload_n rfl dX12_word_71 rfl ?_
      refine r_bipush (v := 111) rfl dX12_word_72 (by decide) ?_
      refine r_icmp_ne (tgt := 103) rfl rfl dX12_word_74 (fun c67 => ?_) (fun c67 => ?_)
      · refine r_iload_n rfl dX12_word_103 rfl ?_
        refine r_iconst (v := 3) rfl dX12_word_104 (by decide) ?_
        refine r_icmp_ne (tgt := 140) rfl rfl dX12_word_105 (fun c => absurd c (by first | exact c66 | exact fun z => z c66)) (fun _ => ?_)
        refine r_iload_n rfl dX12_word_108 rfl ?_
        refine r_bipush (v := 116) rfl dX12_word_109 (by decide) ?_
        refine r_icmp_ne (tgt := 140) rfl rfl dX12_word_111 (fun c68 => ?_) (fun c68 => ?_)
        · refine r_iload_n rfl dX12_word_140 rfl ?_
          refine r_iconst (v := 3) rfl dX12_word_141 (by decide) ?_
          refine r_icmp_ne (tgt := 169) rfl rfl dX12_word_142 (fun c => absurd c (by first | exact c66 | exact fun z => z c66)) (fun _ => ?_)
          refine r_iload_n rfl dX12_word_145 rfl ?_
          refine r_bipush (v := 99) rfl dX12_word_146 (by decide) ?_
          refine r_icmp_ne (tgt := 169) rfl rfl dX12_word_148 (fun c69 => ?_) (fun c69 => ?_)
          · subst e60
            subst e56
            subst e52
            subst eh62
            exact r_ret dX12_word_169 (rt_v rfl) ⟨rfl, by simp only [mwK, mwV, if_pos c65, if_neg (not_not_intro c66), if_pos c67, if_pos c68, if_pos c69, va_up_up], rfl⟩
          · refine r_iload_n rfl dX12_word_151 rfl ?_
            refine r_bipush (v := 117) rfl dX12_word_152 (by decide) ?_
            refine r_icmp_ne (tgt := 169) rfl rfl dX12_word_154 (fun c70 => ?_) (fun c70 => ?_)
            · subst e60
              subst e56
              subst e52
              subst eh62
              exact r_ret dX12_word_169 (rt_v rfl) ⟨rfl, by simp only [mwK, mwV, if_pos c65, if_neg (not_not_intro c66), if_pos c67, if_pos c68, if_neg (not_not_intro c69), if_pos c70, va_up_up], rfl⟩
            · refine r_iload rfl dX12_word_157 rfl ?_
              refine r_bipush (v := 116) rfl dX12_word_159 (by decide) ?_
              refine r_icmp_ne (tgt := 169) rfl rfl dX12_word_161 (fun c71 => ?_) (fun c71 => ?_)
              · subst e60
                subst e56
                subst e52
                subst eh62
                exact r_ret dX12_word_169 (rt_v rfl) ⟨rfl, by simp only [mwK, mwV, if_pos c65, if_neg (not_not_intro c66), if_pos c67, if_pos c68, if_neg (not_not_intro c69), if_neg (not_not_intro c70), if_pos c71, va_up_up], rfl⟩
              · refine r_aload_n rfl dX12_word_164 rfl ?_
                refine r_iconst (v := 3) rfl dX12_word_165 (by decide) ?_
                refine r_putv 5 (fs' := [.int th, .long tr, .ref 421, .int (nI n), .int nx, .int 3, .int (nI q), .int va, .int fa, .int cl, .int md, .int ss, .int wg, .ref 422, .ref 423, .ref 424, .ref 425, .ref 426, .ref 427, .ref 428, .ref 429, .ref 430, .ref 431, .ref 432, .ref 433]) rfl dX12_word_166 (show 2 ≤ 420 ∧ 420 < 434 by decide) f63 (fp_X12_76 rfl _) (Nat.le_of_ble_eq_true rfl) rfl (fun h72 eh73 => ?_)
                have f74 : h72 420 = .inr (12, [.int th, .long tr, .ref 421, .int (nI n), .int nx, .int 3, .int (nI q), .int va, .int fa, .int cl, .int md, .int ss, .int wg, .ref 422, .ref 423, .ref 424, .ref 425, .ref 426, .ref 427, .ref 428, .ref 429, .ref 430, .ref 431, .ref 432, .ref 433]) := by rw [eh73]; exact va_up_self _ _ _
                have f75 : h72 421 = .inl (0, 300, .inl g) := by rw [eh73, va_up_ne _ _ (fun q => by rw [q, f63] at f64; cases f64)]; exact f64
                subst e60
                subst e56
                subst e52
                subst eh73
                subst eh62
                exact r_ret dX12_word_169 (rt_v rfl) ⟨rfl, by simp only [mwK, mwV, if_pos c65, if_neg (not_not_intro c66), if_pos c67, if_pos c68, if_neg (not_not_intro c69), if_neg (not_not_intro c70), if_neg (not_not_intro c71), va_up_up], rfl⟩
        · refine r_iload_n rfl dX12_word_114 rfl ?_
          refine r_bipush (v := 119) rfl dX12_word_115 (by decide) ?_
          refine r_icmp_ne (tgt := 140) rfl rfl dX12_word_117 (fun c76 => ?_) (fun c76 => ?_)
          · refine r_iload_n rfl dX12_word_140 rfl ?_
            refine r_iconst (v := 3) rfl dX12_word_141 (by decide) ?_
            refine r_icmp_ne (tgt := 169) rfl rfl dX12_word_142 (fun c => absurd c (by first | exact c66 | exact fun z => z c66)) (fun _ => ?_)
            refine r_iload_n rfl dX12_word_145 rfl ?_
            refine r_bipush (v := 99) rfl dX12_word_146 (by decide) ?_
            refine r_icmp_ne (tgt := 169) rfl rfl dX12_word_148 (fun c77 => ?_) (fun c77 => ?_)
            · subst e60
              subst e56
              subst e52
              subst eh62
              exact r_ret dX12_word_169 (rt_v rfl) ⟨rfl, by simp only [mwK, mwV, if_pos c65, if_neg (not_not_intro c66), if_pos c67, if_neg (not_not_intro c68), if_pos c76, if_pos c77, va_up_up], rfl⟩
            · refine r_iload_n rfl dX12_word_151 rfl ?_
              refine r_bipush (v := 117) rfl dX12_word_152 (by decide) ?_
              refine r_icmp_ne (tgt := 169) rfl rfl dX12_word_154 (fun c78 => ?_) (fun c78 => ?_)
              · subst e60
                subst e56
                subst e52
                subst eh62
                exact r_ret dX12_word_169 (rt_v rfl) ⟨rfl, by simp only [mwK, mwV, if_pos c65, if_neg (not_not_intro c66), if_pos c67, if_neg (not_not_intro c68), if_pos c76, if_neg (not_not_intro c77), if_pos c78, va_up_up], rfl⟩
              · refine r_iload rfl dX12_word_157 rfl ?_
                refine r_bipush (v := 116) rfl dX12_word_159 (by decide) ?_
                refine r_icmp_ne (tgt := 169) rfl rfl dX12_word_161 (fun c79 => ?_) (fun c79 => ?_)
                · subst e60
                  subst e56
                  subst e52
                  subst eh62
                  exact r_ret dX12_word_169 (rt_v rfl) ⟨rfl, by simp only [mwK, mwV, if_pos c65, if_neg (not_not_intro c66), if_pos c67, if_neg (not_not_intro c68), if_pos c76, if_neg (not_not_intro c77), if_neg (not_not_intro c78), if_pos c79, va_up_up], rfl⟩
                · refine r_aload_n rfl dX12_word_164 rfl ?_
                  refine r_iconst (v := 3) rfl dX12_word_165 (by decide) ?_
                  refine r_putv 5 (fs' := [.int th, .long tr, .ref 421, .int (nI n), .int nx, .int 3, .int (nI q), .int va, .int fa, .int cl, .int md, .int ss, .int wg, .ref 422, .ref 423, .ref 424, .ref 425, .ref 426, .ref 427, .ref 428, .ref 429, .ref 430, .ref 431, .ref 432, .ref 433]) rfl dX12_word_166 (show 2 ≤ 420 ∧ 420 < 434 by decide) f63 (fp_X12_76 rfl _) (Nat.le_of_ble_eq_true rfl) rfl (fun h80 eh81 => ?_)
                  have f82 : h80 420 = .inr (12, [.int th, .long tr, .ref 421, .int (nI n), .int nx, .int 3, .int (nI q), .int va, .int fa, .int cl, .int md, .int ss, .int wg, .ref 422, .ref 423, .ref 424, .ref 425, .ref 426, .ref 427, .ref 428, .ref 429, .ref 430, .ref 431, .ref 432, .ref 433]) := by rw [eh81]; exact va_up_self _ _ _
                  have f83 : h80 421 = .inl (0, 300, .inl g) := by rw [eh81, va_up_ne _ _ (fun q => by rw [q, f63] at f64; cases f64)]; exact f64
                  subst e60
                  subst e56
                  subst e52
                  subst eh81
                  subst eh62
                  exact r_ret dX12_word_169 (rt_v rfl) ⟨rfl, by simp only [mwK, mwV, if_pos c65, if_neg (not_not_intro c66), if_pos c67, if_neg (not_not_intro c68), if_pos c76, if_neg (not_not_intro c77), if_neg (not_not_intro c78), if_neg (not_not_intro c79), va_up_up], rfl⟩
          · refine r_iload rfl dX12_word_120 rfl ?_
            refine r_bipush (v := 111) rfl dX12_word_122 (by decide) ?_
            refine r_icmp_ne (tgt := 140) rfl rfl dX12_word_124 (fun c84 => ?_) (fun c84 => ?_)
            · refine r_iload_n rfl dX12_word_140 rfl ?_
              refine r_iconst (v := 3) rfl dX12_word_141 (by decide) ?_
              refine r_icmp_ne (tgt := 169) rfl rfl dX12_word_142 (fun c => absurd c (by first | exact c66 | exact fun z => z c66)) (fun _ => ?_)
              refine r_iload_n rfl dX12_word_145 rfl ?_
              refine r_bipush (v := 99) rfl dX12_word_146 (by decide) ?_
              refine r_icmp_ne (tgt := 169) rfl rfl dX12_word_148 (fun c85 => ?_) (fun c85 => ?_)
              · subst e60
                subst e56
                subst e52
                subst eh62
                exact r_ret dX12_word_169 (rt_v rfl) ⟨rfl, by simp only [mwK, mwV, if_pos c65, if_neg (not_not_intro c66), if_pos c67, if_neg (not_not_intro c68), if_neg (not_not_intro c76), if_pos c84, if_pos c85, va_up_up], rfl⟩
              · refine r_iload_n rfl dX12_word_151 rfl ?_
                refine r_bipush (v := 117) rfl dX12_word_152 (by decide) ?_
                refine r_icmp_ne (tgt := 169) rfl rfl dX12_word_154 (fun c86 => ?_) (fun c86 => ?_)
                · subst e60
                  subst e56
                  subst e52
                  subst eh62
                  exact r_ret dX12_word_169 (rt_v rfl) ⟨rfl, by simp only [mwK, mwV, if_pos c65, if_neg (not_not_intro c66), if_pos c67, if_neg (not_not_intro c68), if_neg (not_not_intro c76), if_pos c84, if_neg (not_not_intro c85), if_pos c86, va_up_up], rfl⟩
                · refine r_iload rfl dX12_word_157 rfl ?_
                  refine r_bipush (v := 116) rfl dX12_word_159 (by decide) ?_
                  refine r_icmp_ne (tgt := 169) rfl rfl dX12_word_161 (fun c87 => ?_) (fun c87 => ?_)
                  · subst e60
                    subst e56
                    subst e52
                    subst eh62
                    exact r_ret dX12_word_169 (rt_v rfl) ⟨rfl, by simp only [mwK, mwV, if_pos c65, if_neg (not_not_intro c66), if_pos c67, if_neg (not_not_intro c68), if_neg (not_not_intro c76), if_pos c84, if_neg (not_not_intro c85), if_neg (not_not_intro c86), if_pos c87, va_up_up], rfl⟩
                  · refine r_aload_n rfl dX12_word_164 rfl ?_
                    refine r_iconst (v := 3) rfl dX12_word_165 (by decide) ?_
                    refine r_putv 5 (fs' := [.int th, .long tr, .ref 421, .int (nI n), .int nx, .int 3, .int (nI q), .int va, .int fa, .int cl, .int md, .int ss, .int wg, .ref 422, .ref 423, .ref 424, .ref 425, .ref 426, .ref 427, .ref 428, .ref 429, .ref 430, .ref 431, .ref 432, .ref 433]) rfl dX12_word_166 (show 2 ≤ 420 ∧ 420 < 434 by decide) f63 (fp_X12_76 rfl _) (Nat.le_of_ble_eq_true rfl) rfl (fun h88 eh89 => ?_)
                    have f90 : h88 420 = .inr (12, [.int th, .long tr, .ref 421, .int (nI n), .int nx, .int 3, .int (nI q), .int va, .int fa, .int cl, .int md, .int ss, .int wg, .ref 422, .ref 423, .ref 424, .ref 425, .ref 426, .ref 427, .ref 428, .ref 429, .ref 430, .ref 431, .ref 432, .ref 433]) := by rw [eh89]; exact va_up_self _ _ _
                    have f91 : h88 421 = .inl (0, 300, .inl g) := by rw [eh89, va_up_ne _ _ (fun q => by rw [q, f63] at f64; cases f64)]; exact f64
                    subst e60
                    subst e56
                    subst e52
                    subst eh89
                    subst eh62
                    exact r_ret dX12_word_169 (rt_v rfl) ⟨rfl, by simp only [mwK, mwV, if_pos c65, if_neg (not_not_intro c66), if_pos c67, if_neg (not_not_intro c68), if_neg (not_not_intro c76), if_pos c84, if_neg (not_not_intro c85), if_neg (not_not_intro c86), if_neg (not_not_intro c87), va_up_up], rfl⟩
            · refine r_aload_n rfl dX12_word_127 rfl ?_
              refine r_iconst (v := 2) rfl dX12_word_128 (by decide) ?_
              refine r_putv 5 (fs' := [.int th, .long tr, .ref 421, .int (nI n), .int nx, .int 2, .int (nI q), .int va, .int fa, .int cl, .int md, .int ss, .int wg, .ref 422, .ref 423, .ref 424, .ref 425, .ref 426, .ref 427, .ref 428, .ref 429, .ref 430, .ref 431, .ref 432, .ref 433]) rfl dX12_word_129 (show 2 ≤ 420 ∧ 420 < 434 by decide) f63 (fp_X12_76 rfl _) (Nat.le_of_ble_eq_true rfl) rfl (fun h92 eh93 => ?_)
              have f94 : h92 420 = .inr (12, [.int th, .long tr, .ref 421, .int (nI n), .int nx, .int 2, .int (nI q), .int va, .int fa, .int cl, .int md, .int ss, .int wg, .ref 422, .ref 423, .ref 424, .ref 425, .ref 426, .ref 427, .ref 428, .ref 429, .ref 430, .ref 431, .ref 432, .ref 433]) := by rw [eh93]; exact va_up_self _ _ _
              have f95 : h92 421 = .inl (0, 300, .inl g) := by rw [eh93, va_up_ne _ _ (fun q => by rw [q, f63] at f64; cases f64)]; exact f64
              refine r_aload_n rfl dX12_word_132 rfl ?_
              refine r_iconst (v := 2) rfl dX12_word_133 (by decide) ?_
              refine r_putv 7 (fs' := [.int th, .long tr, .ref 421, .int (nI n), .int nx, .int 2, .int (nI q), .int 2, .int fa, .int cl, .int md, .int ss, .int wg, .ref 422, .ref 423, .ref 424, .ref 425, .ref 426, .ref 427, .ref 428, .ref 429, .ref 430, .ref 431, .ref 432, .ref 433]) rfl dX12_word_134 (show 2 ≤ 420 ∧ 420 < 434 by decide) f94 (fp_X12_79 rfl _) (Nat.le_of_ble_eq_true rfl) rfl (fun h96 eh97 => ?_)
              have f98 : h96 420 = .inr (12, [.int th, .long tr, .ref 421, .int (nI n), .int nx, .int 2, .int (nI q), .int 2, .int fa, .int cl, .int md, .int ss, .int wg, .ref 422, .ref 423, .ref 424, .ref 425, .ref 426, .ref 427, .ref 428, .ref 429, .ref 430, .ref 431, .ref 432, .ref 433]) := by rw [eh97]; exact va_up_self _ _ _
              have f99 : h96 421 = .inl (0, 300, .inl g) := by rw [eh97, va_up_ne _ _ (fun q => by rw [q, f94] at f95; cases f95)]; exact f95
              refine r_goto (pc' := 169) rfl dX12_word_137 ?_
              subst e60
              subst e56
              subst e52
              subst eh97
              subst eh93
              subst eh62
              exact r_ret dX12_word_169 (rt_v rfl) ⟨rfl, by simp only [mwK, mwV, if_pos c65, if_neg (not_not_intro c66), if_pos c67, if_neg (not_not_intro c68), if_neg (not_not_intro c76), if_neg (not_not_intro c84), va_up_up], rfl⟩
      · refine r_iload_n rfl dX12_word_77 rfl ?_
        refine r_bipush (v := 110) rfl dX12_word_78 (by decide) ?_
        refine r_icmp_ne (tgt := 103) rfl rfl dX12_word_80 (fun c100 => ?_) (fun c100 => ?_)
        · refine r_iload_n rfl dX12_word_103 rfl ?_
          refine r_iconst (v := 3) rfl dX12_word_104 (by decide) ?_
          refine r_icmp_ne (tgt := 140) rfl rfl dX12_word_105 (fun c => absurd c (by first | exact c66 | exact fun z => z c66)) (fun _ => ?_)
          refine r_iload_n rfl dX12_word_108 rfl ?_
          refine r_bipush (v := 116) rfl dX12_word_109 (by decide) ?_
          refine r_icmp_ne (tgt := 140) rfl rfl dX12_word_111 (fun c101 => ?_) (fun c101 => ?_)
          · refine r_iload_n rfl dX12_word_140 rfl ?_
            refine r_iconst (v := 3) rfl dX12_word_141 (by decide) ?_
            refine r_icmp_ne (tgt := 169) rfl rfl dX12_word_142 (fun c => absurd c (by first | exact c66 | exact fun z => z c66)) (fun _ => ?_)
            refine r_iload_n rfl dX12_word_145 rfl ?_
            refine r_bipush (v := 99) rfl dX12_word_146 (by decide) ?_
            refine r_icmp_ne (tgt := 169) rfl rfl dX12_word_148 (fun c102 => ?_) (fun c102 => ?_)
            · subst e60
              subst e56
              subst e52
              subst eh62
              exact r_ret dX12_word_169 (rt_v rfl) ⟨rfl, by simp only [mwK, mwV, if_pos c65, if_neg (not_not_intro c66), if_neg (not_not_intro c67), if_pos c100, if_pos c101, if_pos c102, va_up_up], rfl⟩
            · refine r_iload_n rfl dX12_word_151 rfl ?_
              refine r_bipush (v := 117) rfl dX12_word_152 (by decide) ?_
              refine r_icmp_ne (tgt := 169) rfl rfl dX12_word_154 (fun c103 => ?_) (fun c103 => ?_)
              · subst e60
                subst e56
                subst e52
                subst eh62
                exact r_ret dX12_word_169 (rt_v rfl) ⟨rfl, by simp only [mwK, mwV, if_pos c65, if_neg (not_not_intro c66), if_neg (not_not_intro c67), if_pos c100, if_pos c101, if_neg (not_not_intro c102), if_pos c103, va_up_up], rfl⟩
              · refine r_iload rfl dX12_word_157 rfl ?_
                refine r_bipush (v := 116) rfl dX12_word_159 (by decide) ?_
                refine r_icmp_ne (tgt := 169) rfl rfl dX12_word_161 (fun c104 => ?_) (fun c104 => ?_)
                · subst e60
                  subst e56
                  subst e52
                  subst eh62
                  exact r_ret dX12_word_169 (rt_v rfl) ⟨rfl, by simp only [mwK, mwV, if_pos c65, if_neg (not_not_intro c66), if_neg (not_not_intro c67), if_pos c100, if_pos c101, if_neg (not_not_intro c102), if_neg (not_not_intro c103), if_pos c104, va_up_up], rfl⟩
                · refine r_aload_n rfl dX12_word_164 rfl ?_
                  refine r_iconst (v := 3) rfl dX12_word_165 (by decide) ?_
                  refine r_putv 5 (fs' := [.int th, .long tr, .ref 421, .int (nI n), .int nx, .int 3, .int (nI q), .int va, .int fa, .int cl, .int md, .int ss, .int wg, .ref 422, .ref 423, .ref 424, .ref 425, .ref 426, .ref 427, .ref 428, .ref 429, .ref 430, .ref 431, .ref 432, .ref 433]) rfl dX12_word_166 (show 2 ≤ 420 ∧ 420 < 434 by decide) f63 (fp_X12_76 rfl _) (Nat.le_of_ble_eq_true rfl) rfl (fun h105 eh106 => ?_)
                  have f107 : h105 420 = .inr (12, [.int th, .long tr, .ref 421, .int (nI n), .int nx, .int 3, .int (nI q), .int va, .int fa, .int cl, .int md, .int ss, .int wg, .ref 422, .ref 423, .ref 424, .ref 425, .ref 426, .ref 427, .ref 428, .ref 429, .ref 430, .ref 431, .ref 432, .ref 433]) := by rw [eh106]; exact va_up_self _ _ _
                  have f108 : h105 421 = .inl (0, 300, .inl g) := by rw [eh106, va_up_ne _ _ (fun q => by rw [q, f63] at f64; cases f64)]; exact f64
                  subst e60
                  subst e56
                  subst e52
                  subst eh106
                  subst eh62
                  exact r_ret dX12_word_169 (rt_v rfl) ⟨rfl, by simp only [mwK, mwV, if_pos c65, if_neg (not_not_intro c66), if_neg (not_not_intro c67), if_pos c100, if_pos c101, if_neg (not_not_intro c102), if_neg (not_not_intro c103), if_neg (not_not_intro c104), va_up_up], rfl⟩
          · refine r_iload_n rfl dX12_word_114 rfl ?_
            refine r_bipush (v := 119) rfl dX12_word_115 (by decide) ?_
            refine r_icmp_ne (tgt := 140) rfl rfl dX12_word_117 (fun c109 => ?_) (fun c109 => ?_)
            · refine r_iload_n rfl dX12_word_140 rfl ?_
              refine r_iconst (v := 3) rfl dX12_word_141 (by decide) ?_
              refine r_icmp_ne (tgt := 169) rfl rfl dX12_word_142 (fun c => absurd c (by first | exact c66 | exact fun z => z c66)) (fun _ => ?_)
              refine r_iload_n rfl dX12_word_145 rfl ?_
              refine r_bipush (v := 99) rfl dX12_word_146 (by decide) ?_
              refine r_icmp_ne (tgt := 169) rfl rfl dX12_word_148 (fun c110 => ?_) (fun c110 => ?_)
              · subst e60
                subst e56
                subst e52
                subst eh62
                exact r_ret dX12_word_169 (rt_v rfl) ⟨rfl, by simp only [mwK, mwV, if_pos c65, if_neg (not_not_intro c66), if_neg (not_not_intro c67), if_pos c100, if_neg (not_not_intro c101), if_pos c109, if_pos c110, va_up_up], rfl⟩
              · refine r_iload_n rfl dX12_word_151 rfl ?_
                refine r_bipush (v := 117) rfl dX12_word_152 (by decide) ?_
                refine r_icmp_ne (tgt := 169) rfl rfl dX12_word_154 (fun c111 => ?_) (fun c111 => ?_)
                · subst e60
                  subst e56
                  subst e52
                  subst eh62
                  exact r_ret dX12_word_169 (rt_v rfl) ⟨rfl, by simp only [mwK, mwV, if_pos c65, if_neg (not_not_intro c66), if_neg (not_not_intro c67), if_pos c100, if_neg (not_not_intro c101), if_pos c109, if_neg (not_not_intro c110), if_pos c111, va_up_up], rfl⟩
                · refine r_iload rfl dX12_word_157 rfl ?_
                  refine r_bipush (v := 116) rfl dX12_word_159 (by decide) ?_
                  refine r_icmp_ne (tgt := 169) rfl rfl dX12_word_161 (fun c112 => ?_) (fun c112 => ?_)
                  · subst e60
                    subst e56
                    subst e52
                    subst eh62
                    exact r_ret dX12_word_169 (rt_v rfl) ⟨rfl, by simp only [mwK, mwV, if_pos c65, if_neg (not_not_intro c66), if_neg (not_not_intro c67), if_pos c100, if_neg (not_not_intro c101), if_pos c109, if_neg (not_not_intro c110), if_neg (not_not_intro c111), if_pos c112, va_up_up], rfl⟩
                  · refine r_aload_n rfl dX12_word_164 rfl ?_
                    refine r_iconst (v := 3) rfl dX12_word_165 (by decide) ?_
                    refine r_putv 5 (fs' := [.int th, .long tr, .ref 421, .int (nI n), .int nx, .int 3, .int (nI q), .int va, .int fa, .int cl, .int md, .int ss, .int wg, .ref 422, .ref 423, .ref 424, .ref 425, .ref 426, .ref 427, .ref 428, .ref 429, .ref 430, .ref 431, .ref 432, .ref 433]) rfl dX12_word_166 (show 2 ≤ 420 ∧ 420 < 434 by decide) f63 (fp_X12_76 rfl _) (Nat.le_of_ble_eq_true rfl) rfl (fun h113 eh114 => ?_)
                    have f115 : h113 420 = .inr (12, [.int th, .long tr, .ref 421, .int (nI n), .int nx, .int 3, .int (nI q), .int va, .int fa, .int cl, .int md, .int ss, .int wg, .ref 422, .ref 423, .ref 424, .ref 425, .ref 426, .ref 427, .ref 428, .ref 429, .ref 430, .ref 431, .ref 432, .ref 433]) := by rw [eh114]; exact va_up_self _ _ _
                    have f116 : h113 421 = .inl (0, 300, .inl g) := by rw [eh114, va_up_ne _ _ (fun q => by rw [q, f63] at f64; cases f64)]; exact f64
                    subst e60
                    subst e56
                    subst e52
                    subst eh114
                    subst eh62
                    exact r_ret dX12_word_169 (rt_v rfl) ⟨rfl, by simp only [mwK, mwV, if_pos c65, if_neg (not_not_intro c66), if_neg (not_not_intro c67), if_pos c100, if_neg (not_not_intro c101), if_pos c109, if_neg (not_not_intro c110), if_neg (not_not_intro c111), if_neg (not_not_intro c112), va_up_up], rfl⟩
            · refine r_iload rfl dX12_word_120 rfl ?_
              refine r_bipush (v := 111) rfl dX12_word_122 (by decide) ?_
              refine r_icmp_ne (tgt := 140) rfl rfl dX12_word_124 (fun c117 => ?_) (fun c117 => ?_)
              · refine r_iload_n rfl dX12_word_140 rfl ?_
                refine r_iconst (v := 3) rfl dX12_word_141 (by decide) ?_
                refine r_icmp_ne (tgt := 169) rfl rfl dX12_word_142 (fun c => absurd c (by first | exact c66 | exact fun z => z c66)) (fun _ => ?_)
                refine r_iload_n rfl dX12_word_145 rfl ?_
                refine r_bipush (v := 99) rfl dX12_word_146 (by decide) ?_
                refine r_icmp_ne (tgt := 169) rfl rfl dX12_word_148 (fun c118 => ?_) (fun c118 => ?_)
                · subst e60
                  subst e56
                  subst e52
                  subst eh62
                  exact r_ret dX12_word_169 (rt_v rfl) ⟨rfl, by simp only [mwK, mwV, if_pos c65, if_neg (not_not_intro c66), if_neg (not_not_intro c67), if_pos c100, if_neg (not_not_intro c101), if_neg (not_not_intro c109), if_pos c117, if_pos c118, va_up_up], rfl⟩
                · refine r_iload_n rfl dX12_word_151 rfl ?_
                  refine r_bipush (v := 117) rfl dX12_word_152 (by decide) ?_
                  refine r_icmp_ne (tgt := 169) rfl rfl dX12_word_154 (fun c119 => ?_) (fun c119 => ?_)
                  · subst e60
                    subst e56
                    subst e52
                    subst eh62
                    exact r_ret dX12_word_169 (rt_v rfl) ⟨rfl, by simp only [mwK, mwV, if_pos c65, if_neg (not_not_intro c66), if_neg (not_not_intro c67), if_pos c100, if_neg (not_not_intro c101), if_neg (not_not_intro c109), if_pos c117, if_neg (not_not_intro c118), if_pos c119, va_up_up], rfl⟩
                  · refine r_iload rfl dX12_word_157 rfl ?_
                    refine r_bipush (v := 116) rfl dX12_word_159 (by decide) ?_
                    refine r_icmp_ne (tgt := 169) rfl rfl dX12_word_161 (fun c120 => ?_) (fun c120 => ?_)
                    · subst e60
                      subst e56
                      subst e52
                      subst eh62
                      exact r_ret dX12_word_169 (rt_v rfl) ⟨rfl, by simp only [mwK, mwV, if_pos c65, if_neg (not_not_intro c66), if_neg (not_not_intro c67), if_pos c100, if_neg (not_not_intro c101), if_neg (not_not_intro c109), if_pos c117, if_neg (not_not_intro c118), if_neg (not_not_intro c119), if_pos c120, va_up_up], rfl⟩
                    · refine r_aload_n rfl dX12_word_164 rfl ?_
                      refine r_iconst (v := 3) rfl dX12_word_165 (by decide) ?_
                      refine r_putv 5 (fs' := [.int th, .long tr, .ref 421, .int (nI n), .int nx, .int 3, .int (nI q), .int va, .int fa, .int cl, .int md, .int ss, .int wg, .ref 422, .ref 423, .ref 424, .ref 425, .ref 426, .ref 427, .ref 428, .ref 429, .ref 430, .ref 431, .ref 432, .ref 433]) rfl dX12_word_166 (show 2 ≤ 420 ∧ 420 < 434 by decide) f63 (fp_X12_76 rfl _) (Nat.le_of_ble_eq_true rfl) rfl (fun h121 eh122 => ?_)
                      have f123 : h121 420 = .inr (12, [.int th, .long tr, .ref 421, .int (nI n), .int nx, .int 3, .int (nI q), .int va, .int fa, .int cl, .int md, .int ss, .int wg, .ref 422, .ref 423, .ref 424, .ref 425, .ref 426, .ref 427, .ref 428, .ref 429, .ref 430, .ref 431, .ref 432, .ref 433]) := by rw [eh122]; exact va_up_self _ _ _
                      have f124 : h121 421 = .inl (0, 300, .inl g) := by rw [eh122, va_up_ne _ _ (fun q => by rw [q, f63] at f64; cases f64)]; exact f64
                      subst e60
                      subst e56
                      subst e52
                      subst eh122
                      subst eh62
                      exact r_ret dX12_word_169 (rt_v rfl) ⟨rfl, by simp only [mwK, mwV, if_pos c65, if_neg (not_not_intro c66), if_neg (not_not_intro c67), if_pos c100, if_neg (not_not_intro c101), if_neg (not_not_intro c109), if_pos c117, if_neg (not_not_intro c118), if_neg (not_not_intro c119), if_neg (not_not_intro c120), va_up_up], rfl⟩
              · refine r_aload_n rfl dX12_word_127 rfl ?_
                refine r_iconst (v := 2) rfl dX12_word_128 (by decide) ?_
                refine r_putv 5 (fs' := [.int th, .long tr, .ref 421, .int (nI n), .int nx, .int 2, .int (nI q), .int va, .int fa, .int cl, .int md, .int ss, .int wg, .ref 422, .ref 423, .ref 424, .ref 425, .ref 426, .ref 427, .ref 428, .ref 429, .ref 430, .ref 431, .ref 432, .ref 433]) rfl dX12_word_129 (show 2 ≤ 420 ∧ 420 < 434 by decide) f63 (fp_X12_76 rfl _) (Nat.le_of_ble_eq_true rfl) rfl (fun h125 eh126 => ?_)
                have f127 : h125 420 = .inr (12, [.int th, .long tr, .ref 421, .int (nI n), .int nx, .int 2, .int (nI q), .int va, .int fa, .int cl, .int md, .int ss, .int wg, .ref 422, .ref 423, .ref 424, .ref 425, .ref 426, .ref 427, .ref 428, .ref 429, .ref 430, .ref 431, .ref 432, .ref 433]) := by rw [eh126]; exact va_up_self _ _ _
                have f128 : h125 421 = .inl (0, 300, .inl g) := by rw [eh126, va_up_ne _ _ (fun q => by rw [q, f63] at f64; cases f64)]; exact f64
                refine r_aload_n rfl dX12_word_132 rfl ?_
                refine r_iconst (v := 2) rfl dX12_word_133 (by decide) ?_
                refine r_putv 7 (fs' := [.int th, .long tr, .ref 421, .int (nI n), .int nx, .int 2, .int (nI q), .int 2, .int fa, .int cl, .int md, .int ss, .int wg, .ref 422, .ref 423, .ref 424, .ref 425, .ref 426, .ref 427, .ref 428, .ref 429, .ref 430, .ref 431, .ref 432, .ref 433]) rfl dX12_word_134 (show 2 ≤ 420 ∧ 420 < 434 by decide) f127 (fp_X12_79 rfl _) (Nat.le_of_ble_eq_true rfl) rfl (fun h129 eh130 => ?_)
                have f131 : h129 420 = .inr (12, [.int th, .long tr, .ref 421, .int (nI n), .int nx, .int 2, .int (nI q), .int 2, .int fa, .int cl, .int md, .int ss, .int wg, .ref 422, .ref 423, .ref 424, .ref 425, .ref 426, .ref 427, .ref 428, .ref 429, .ref 430, .ref 431, .ref 432, .ref 433]) := by rw [eh130]; exact va_up_self _ _ _
                have f132 : h129 421 = .inl (0, 300, .inl g) := by rw [eh130, va_up_ne _ _ (fun q => by rw [q, f127] at f128; cases f128)]; exact f128
                refine r_goto (pc' := 169) rfl dX12_word_137 ?_
                subst e60
                subst e56
                subst e52
                subst eh130
                subst eh126
                subst eh62
                exact r_ret dX12_word_169 (rt_v rfl) ⟨rfl, by simp only [mwK, mwV, if_pos c65, if_neg (not_not_intro c66), if_neg (not_not_intro c67), if_pos c100, if_neg (not_not_intro c101), if_neg (not_not_intro c109), if_neg (not_not_intro c117), va_up_up], rfl⟩
        · refine r_iload rfl dX12_word_83 rfl ?_
          refine r_bipush (v := 101) rfl dX12_word_85 (by decide) ?_
          refine r_icmp_ne (tgt := 103) rfl rfl dX12_word_87 (fun c133 => ?_) (fun c133 => ?_)
          · refine r_iload_n rfl dX12_word_103 rfl ?_
            refine r_iconst (v := 3) rfl dX12_word_104 (by decide) ?_
            refine r_icmp_ne (tgt := 140) rfl rfl dX12_word_105 (fun c => absurd c (by first | exact c66 | exact fun z => z c66)) (fun _ => ?_)
            refine r_iload_n rfl dX12_word_108 rfl ?_
            refine r_bipush (v := 116) rfl dX12_word_109 (by decide) ?_
            refine r_icmp_ne (tgt := 140) rfl rfl dX12_word_111 (fun c134 => ?_) (fun c134 => ?_)
            · refine r_iload_n rfl dX12_word_140 rfl ?_
              refine r_iconst (v := 3) rfl dX12_word_141 (by decide) ?_
              refine r_icmp_ne (tgt := 169) rfl rfl dX12_word_142 (fun c => absurd c (by first | exact c66 | exact fun z => z c66)) (fun _ => ?_)
              refine r_iload_n rfl dX12_word_145 rfl ?_
              refine r_bipush (v := 99) rfl dX12_word_146 (by decide) ?_
              refine r_icmp_ne (tgt := 169) rfl rfl dX12_word_148 (fun c135 => ?_) (fun c135 => ?_)
              · subst e60
                subst e56
                subst e52
                subst eh62
                exact r_ret dX12_word_169 (rt_v rfl) ⟨rfl, by simp only [mwK, mwV, if_pos c65, if_neg (not_not_intro c66), if_neg (not_not_intro c67), if_neg (not_not_intro c100), if_pos c133, if_pos c134, if_pos c135, va_up_up], rfl⟩
              · refine r_iload_n rfl dX12_word_151 rfl ?_
                refine r_bipush (v := 117) rfl dX12_word_152 (by decide) ?_
                refine r_icmp_ne (tgt := 169) rfl rfl dX12_word_154 (fun c136 => ?_) (fun c136 => ?_)
                · subst e60
                  subst e56
                  subst e52
                  subst eh62
                  exact r_ret dX12_word_169 (rt_v rfl) ⟨rfl, by simp only [mwK, mwV, if_pos c65, if_neg (not_not_intro c66), if_neg (not_not_intro c67), if_neg (not_not_intro c100), if_pos c133, if_pos c134, if_neg (not_not_intro c135), if_pos c136, va_up_up], rfl⟩
                · refine r_iload rfl dX12_word_157 rfl ?_
                  refine r_bipush (v := 116) rfl dX12_word_159 (by decide) ?_
                  refine r_icmp_ne (tgt := 169) rfl rfl dX12_word_161 (fun c137 => ?_) (fun c137 => ?_)
                  · subst e60
                    subst e56
                    subst e52
                    subst eh62
                    exact r_ret dX12_word_169 (rt_v rfl) ⟨rfl, by simp only [mwK, mwV, if_pos c65, if_neg (not_not_intro c66), if_neg (not_not_intro c67), if_neg (not_not_intro c100), if_pos c133, if_pos c134, if_neg (not_not_intro c135), if_neg (not_not_intro c136), if_pos c137, va_up_up], rfl⟩
                  · refine r_aload_n rfl dX12_word_164 rfl ?_
                    refine r_iconst (v := 3) rfl dX12_word_165 (by decide) ?_
                    refine r_putv 5 (fs' := [.int th, .long tr, .ref 421, .int (nI n), .int nx, .int 3, .int (nI q), .int va, .int fa, .int cl, .int md, .int ss, .int wg, .ref 422, .ref 423, .ref 424, .ref 425, .ref 426, .ref 427, .ref 428, .ref 429, .ref 430, .ref 431, .ref 432, .ref 433]) rfl dX12_word_166 (show 2 ≤ 420 ∧ 420 < 434 by decide) f63 (fp_X12_76 rfl _) (Nat.le_of_ble_eq_true rfl) rfl (fun h138 eh139 => ?_)
                    have f140 : h138 420 = .inr (12, [.int th, .long tr, .ref 421, .int (nI n), .int nx, .int 3, .int (nI q), .int va, .int fa, .int cl, .int md, .int ss, .int wg, .ref 422, .ref 423, .ref 424, .ref 425, .ref 426, .ref 427, .ref 428, .ref 429, .ref 430, .ref 431, .ref 432, .ref 433]) := by rw [eh139]; exact va_up_self _ _ _
                    have f141 : h138 421 = .inl (0, 300, .inl g) := by rw [eh139, va_up_ne _ _ (fun q => by rw [q, f63] at f64; cases f64)]; exact f64
                    subst e60
                    subst e56
                    subst e52
                    subst eh139
                    subst eh62
                    exact r_ret dX12_word_169 (rt_v rfl) ⟨rfl, by simp only [mwK, mwV, if_pos c65, if_neg (not_not_intro c66), if_neg (not_not_intro c67), if_neg (not_not_intro c100), if_pos c133, if_pos c134, if_neg (not_not_intro c135), if_neg (not_not_intro c136), if_neg (not_not_intro c137), va_up_up], rfl⟩
            · refine r_iload_n rfl dX12_word_114 rfl ?_
              refine r_bipush (v := 119) rfl dX12_word_115 (by decide) ?_
              refine r_icmp_ne (tgt := 140) rfl rfl dX12_word_117 (fun c142 => ?_) (fun c142 => ?_)
              · refine r_iload_n rfl dX12_word_140 rfl ?_
                refine r_iconst (v := 3) rfl dX12_word_141 (by decide) ?_
                refine r_icmp_ne (tgt := 169) rfl rfl dX12_word_142 (fun c => absurd c (by first | exact c66 | exact fun z => z c66)) (fun _ => ?_)
                refine r_iload_n rfl dX12_word_145 rfl ?_
                refine r_bipush (v := 99) rfl dX12_word_146 (by decide) ?_
                refine r_icmp_ne (tgt := 169) rfl rfl dX12_word_148 (fun c143 => ?_) (fun c143 => ?_)
                · subst e60
                  subst e56
                  subst e52
                  subst eh62
                  exact r_ret dX12_word_169 (rt_v rfl) ⟨rfl, by simp only [mwK, mwV, if_pos c65, if_neg (not_not_intro c66), if_neg (not_not_intro c67), if_neg (not_not_intro c100), if_pos c133, if_neg (not_not_intro c134), if_pos c142, if_pos c143, va_up_up], rfl⟩
                · refine r_iload_n rfl dX12_word_151 rfl ?_
                  refine r_bipush (v := 117) rfl dX12_word_152 (by decide) ?_
                  refine r_icmp_ne (tgt := 169) rfl rfl dX12_word_154 (fun c144 => ?_) (fun c144 => ?_)
                  · subst e60
                    subst e56
                    subst e52
                    subst eh62
                    exact r_ret dX12_word_169 (rt_v rfl) ⟨rfl, by simp only [mwK, mwV, if_pos c65, if_neg (not_not_intro c66), if_neg (not_not_intro c67), if_neg (not_not_intro c100), if_pos c133, if_neg (not_not_intro c134), if_pos c142, if_neg (not_not_intro c143), if_pos c144, va_up_up], rfl⟩
                  · refine r_iload rfl dX12_word_157 rfl ?_
                    refine r_bipush (v := 116) rfl dX12_word_159 (by decide) ?_
                    refine r_icmp_ne (tgt := 169) rfl rfl dX12_word_161 (fun c145 => ?_) (fun c145 => ?_)
                    · subst e60
                      subst e56
                      subst e52
                      subst eh62
                      exact r_ret dX12_word_169 (rt_v rfl) ⟨rfl, by simp only [mwK, mwV, if_pos c65, if_neg (not_not_intro c66), if_neg (not_not_intro c67), if_neg (not_not_intro c100), if_pos c133, if_neg (not_not_intro c134), if_pos c142, if_neg (not_not_intro c143), if_neg (not_not_intro c144), if_pos c145, va_up_up], rfl⟩
                    · refine r_aload_n rfl dX12_word_164 rfl ?_
                      refine r_iconst (v := 3) rfl dX12_word_165 (by decide) ?_
                      refine r_putv 5 (fs' := [.int th, .long tr, .ref 421, .int (nI n), .int nx, .int 3, .int (nI q), .int va, .int fa, .int cl, .int md, .int ss, .int wg, .ref 422, .ref 423, .ref 424, .ref 425, .ref 426, .ref 427, .ref 428, .ref 429, .ref 430, .ref 431, .ref 432, .ref 433]) rfl dX12_word_166 (show 2 ≤ 420 ∧ 420 < 434 by decide) f63 (fp_X12_76 rfl _) (Nat.le_of_ble_eq_true rfl) rfl (fun h146 eh147 => ?_)
                      have f148 : h146 420 = .inr (12, [.int th, .long tr, .ref 421, .int (nI n), .int nx, .int 3, .int (nI q), .int va, .int fa, .int cl, .int md, .int ss, .int wg, .ref 422, .ref 423, .ref 424, .ref 425, .ref 426, .ref 427, .ref 428, .ref 429, .ref 430, .ref 431, .ref 432, .ref 433]) := by rw [eh147]; exact va_up_self _ _ _
                      have f149 : h146 421 = .inl (0, 300, .inl g) := by rw [eh147, va_up_ne _ _ (fun q => by rw [q, f63] at f64; cases f64)]; exact f64
                      subst e60
                      subst e56
                      subst e52
                      subst eh147
                      subst eh62
                      exact r_ret dX12_word_169 (rt_v rfl) ⟨rfl, by simp only [mwK, mwV, if_pos c65, if_neg (not_not_intro c66), if_neg (not_not_intro c67), if_neg (not_not_intro c100), if_pos c133, if_neg (not_not_intro c134), if_pos c142, if_neg (not_not_intro c143), if_neg (not_not_intro c144), if_neg (not_not_intro c145), va_up_up], rfl⟩
              · refine r_iload rfl dX12_word_120 rfl ?_
                refine r_bipush (v := 111) rfl dX12_word_122 (by decide) ?_
                refine r_icmp_ne (tgt := 140) rfl rfl dX12_word_124 (fun c150 => ?_) (fun c150 => ?_)
                · refine r_iload_n rfl dX12_word_140 rfl ?_
                  refine r_iconst (v := 3) rfl dX12_word_141 (by decide) ?_
                  refine r_icmp_ne (tgt := 169) rfl rfl dX12_word_142 (fun c => absurd c (by first | exact c66 | exact fun z => z c66)) (fun _ => ?_)
                  refine r_iload_n rfl dX12_word_145 rfl ?_
                  refine r_bipush (v := 99) rfl dX12_word_146 (by decide) ?_
                  refine r_icmp_ne (tgt := 169) rfl rfl dX12_word_148 (fun c151 => ?_) (fun c151 => ?_)
                  · subst e60
                    subst e56
                    subst e52
                    subst eh62
                    exact r_ret dX12_word_169 (rt_v rfl) ⟨rfl, by simp only [mwK, mwV, if_pos c65, if_neg (not_not_intro c66), if_neg (not_not_intro c67), if_neg (not_not_intro c100), if_pos c133, if_neg (not_not_intro c134), if_neg (not_not_intro c142), if_pos c150, if_pos c151, va_up_up], rfl⟩
                  · refine r_iload_n rfl dX12_word_151 rfl ?_
                    refine r_bipush (v := 117) rfl dX12_word_152 (by decide) ?_
                    refine r_icmp_ne (tgt := 169) rfl rfl dX12_word_154 (fun c152 => ?_) (fun c152 => ?_)
                    · subst e60
                      subst e56
                      subst e52
                      subst eh62
                      exact r_ret dX12_word_169 (rt_v rfl) ⟨rfl, by simp only [mwK, mwV, if_pos c65, if_neg (not_not_intro c66), if_neg (not_not_intro c67), if_neg (not_not_intro c100), if_pos c133, if_neg (not_not_intro c134), if_neg (not_not_intro c142), if_pos c150, if_neg (not_not_intro c151), if_pos c152, va_up_up], rfl⟩
                    · refine r_iload rfl dX12_word_157 rfl ?_
                      refine r_bipush (v := 116) rfl dX12_word_159 (by decide) ?_
                      refine r_icmp_ne (tgt := 169) rfl rfl dX12_word_161 (fun c153 => ?_) (fun c153 => ?_)
                      · subst e60
                        subst e56
                        subst e52
                        subst eh62
                        exact r_ret dX12_word_169 (rt_v rfl) ⟨rfl, by simp only [mwK, mwV, if_pos c65, if_neg (not_not_intro c66), if_neg (not_not_intro c67), if_neg (not_not_intro c100), if_pos c133, if_neg (not_not_intro c134), if_neg (not_not_intro c142), if_pos c150, if_neg (not_not_intro c151), if_neg (not_not_intro c152), if_pos c153, va_up_up], rfl⟩
                      · refine r_aload_n rfl dX12_word_164 rfl ?_
                        refine r_iconst (v := 3) rfl dX12_word_165 (by decide) ?_
                        refine r_putv 5 (fs' := [.int th, .long tr, .ref 421, .int (nI n), .int nx, .int 3, .int (nI q), .int va, .int fa, .int cl, .int md, .int ss, .int wg, .ref 422, .ref 423, .ref 424, .ref 425, .ref 426, .ref 427, .ref 428, .ref 429, .ref 430, .ref 431, .ref 432, .ref 433]) rfl dX12_word_166 (show 2 ≤ 420 ∧ 420 < 434 by decide) f63 (fp_X12_76 rfl _) (Nat.le_of_ble_eq_true rfl) rfl (fun h154 eh155 => ?_)
                        have f156 : h154 420 = .inr (12, [.int th, .long tr, .ref 421, .int (nI n), .int nx, .int 3, .int (nI q), .int va, .int fa, .int cl, .int md, .int ss, .int wg, .ref 422, .ref 423, .ref 424, .ref 425, .ref 426, .ref 427, .ref 428, .ref 429, .ref 430, .ref 431, .ref 432, .ref 433]) := by rw [eh155]; exact va_up_self _ _ _
                        have f157 : h154 421 = .inl (0, 300, .inl g) := by rw [eh155, va_up_ne _ _ (fun q => by rw [q, f63] at f64; cases f64)]; exact f64
                        subst e60
                        subst e56
                        subst e52
                        subst eh155
                        subst eh62
                        exact r_ret dX12_word_169 (rt_v rfl) ⟨rfl, by simp only [mwK, mwV, if_pos c65, if_neg (not_not_intro c66), if_neg (not_not_intro c67), if_neg (not_not_intro c100), if_pos c133, if_neg (not_not_intro c134), if_neg (not_not_intro c142), if_pos c150, if_neg (not_not_intro c151), if_neg (not_not_intro c152), if_neg (not_not_intro c153), va_up_up], rfl⟩
                · refine r_aload_n rfl dX12_word_127 rfl ?_
                  refine r_iconst (v := 2) rfl dX12_word_128 (by decide) ?_
                  refine r_putv 5 (fs' := [.int th, .long tr, .ref 421, .int (nI n), .int nx, .int 2, .int (nI q), .int va, .int fa, .int cl, .int md, .int ss, .int wg, .ref 422, .ref 423, .ref 424, .ref 425, .ref 426, .ref 427, .ref 428, .ref 429, .ref 430, .ref 431, .ref 432, .ref 433]) rfl dX12_word_129 (show 2 ≤ 420 ∧ 420 < 434 by decide) f63 (fp_X12_76 rfl _) (Nat.le_of_ble_eq_true rfl) rfl (fun h158 eh159 => ?_)
                  have f160 : h158 420 = .inr (12, [.int th, .long tr, .ref 421, .int (nI n), .int nx, .int 2, .int (nI q), .int va, .int fa, .int cl, .int md, .int ss, .int wg, .ref 422, .ref 423, .ref 424, .ref 425, .ref 426, .ref 427, .ref 428, .ref 429, .ref 430, .ref 431, .ref 432, .ref 433]) := by rw [eh159]; exact va_up_self _ _ _
                  have f161 : h158 421 = .inl (0, 300, .inl g) := by rw [eh159, va_up_ne _ _ (fun q => by rw [q, f63] at f64; cases f64)]; exact f64
                  refine r_aload_n rfl dX12_word_132 rfl ?_
                  refine r_iconst (v := 2) rfl dX12_word_133 (by decide) ?_
                  refine r_putv 7 (fs' := [.int th, .long tr, .ref 421, .int (nI n), .int nx, .int 2, .int (nI q), .int 2, .int fa, .int cl, .int md, .int ss, .int wg, .ref 422, .ref 423, .ref 424, .ref 425, .ref 426, .ref 427, .ref 428, .ref 429, .ref 430, .ref 431, .ref 432, .ref 433]) rfl dX12_word_134 (show 2 ≤ 420 ∧ 420 < 434 by decide) f160 (fp_X12_79 rfl _) (Nat.le_of_ble_eq_true rfl) rfl (fun h162 eh163 => ?_)
                  have f164 : h162 420 = .inr (12, [.int th, .long tr, .ref 421, .int (nI n), .int nx, .int 2, .int (nI q), .int 2, .int fa, .int cl, .int md, .int ss, .int wg, .ref 422, .ref 423, .ref 424, .ref 425, .ref 426, .ref 427, .ref 428, .ref 429, .ref 430, .ref 431, .ref 432, .ref 433]) := by rw [eh163]; exact va_up_self _ _ _
                  have f165 : h162 421 = .inl (0, 300, .inl g) := by rw [eh163, va_up_ne _ _ (fun q => by rw [q, f160] at f161; cases f161)]; exact f161
                  refine r_goto (pc' := 169) rfl dX12_word_137 ?_
                  subst e60
                  subst e56
                  subst e52
                  subst eh163
                  subst eh159
                  subst eh62
                  exact r_ret dX12_word_169 (rt_v rfl) ⟨rfl, by simp only [mwK, mwV, if_pos c65, if_neg (not_not_intro c66), if_neg (not_not_intro c67), if_neg (not_not_intro c100), if_pos c133, if_neg (not_not_intro c134), if_neg (not_not_intro c142), if_neg (not_not_intro c150), va_up_up], rfl⟩
          · refine r_aload_n rfl dX12_word_90 rfl ?_
            refine r_iconst (v := 2) rfl dX12_word_91 (by decide) ?_
            refine r_putv 5 (fs' := [.int th, .long tr, .ref 421, .int (nI n), .int nx, .int 2, .int (nI q), .int va, .int fa, .int cl, .int md, .int ss, .int wg, .ref 422, .ref 423, .ref 424, .ref 425, .ref 426, .ref 427, .ref 428, .ref 429, .ref 430, .ref 431, .ref 432, .ref 433]) rfl dX12_word_92 (show 2 ≤ 420 ∧ 420 < 434 by decide) f63 (fp_X12_76 rfl _) (Nat.le_of_ble_eq_true rfl) rfl (fun h166 eh167 => ?_)
            have f168 : h166 420 = .inr (12, [.int th, .long tr, .ref 421, .int (nI n), .int nx, .int 2, .int (nI q), .int va, .int fa, .int cl, .int md, .int ss, .int wg, .ref 422, .ref 423, .ref 424, .ref 425, .ref 426, .ref 427, .ref 428, .ref 429, .ref 430, .ref 431, .ref 432, .ref 433]) := by rw [eh167]; exact va_up_self _ _ _
            have f169 : h166 421 = .inl (0, 300, .inl g) := by rw [eh167, va_up_ne _ _ (fun q => by rw [q, f63] at f64; cases f64)]; exact f64
            refine r_aload_n rfl dX12_word_95 rfl ?_
            refine r_iconst (v := 1) rfl dX12_word_96 (by decide) ?_
            refine r_putv 7 (fs' := [.int th, .long tr, .ref 421, .int (nI n), .int nx, .int 2, .int (nI q), .int 1, .int fa, .int cl, .int md, .int ss, .int wg, .ref 422, .ref 423, .ref 424, .ref 425, .ref 426, .ref 427, .ref 428, .ref 429, .ref 430, .ref 431, .ref 432, .ref 433]) rfl dX12_word_97 (show 2 ≤ 420 ∧ 420 < 434 by decide) f168 (fp_X12_79 rfl _) (Nat.le_of_ble_eq_true rfl) rfl (fun h170 eh171 => ?_)
            have f172 : h170 420 = .inr (12, [.int th, .long tr, .ref 421, .int (nI n), .int nx, .int 2, .int (nI q), .int 1, .int fa, .int cl, .int md, .int ss, .int wg, .ref 422, .ref 423, .ref 424, .ref 425, .ref 426, .ref 427, .ref 428, .ref 429, .ref 430, .ref 431, .ref 432, .ref 433]) := by rw [eh171]; exact va_up_self _ _ _
            have f173 : h170 421 = .inl (0, 300, .inl g) := by rw [eh171, va_up_ne _ _ (fun q => by rw [q, f168] at f169; cases f169)]; exact f169
            refine r_goto (pc' := 169) rfl dX12_word_100 ?_
            subst e60
            subst e56
            subst e52
            subst eh171
            subst eh167
            subst eh62
            exact r_ret dX12_word_169 (rt_v rfl) ⟨rfl, by simp only [mwK, mwV, if_pos c65, if_neg (not_not_intro c66), if_neg (not_not_intro c67), if_neg (not_not_intro c100), if_neg (not_not_intro c133), va_up_up], rfl⟩
  · refine r_iload_n rfl dX12_word_44 rfl ?_
    refine r_bipush (v := 104) rfl dX12_word_45 (by decide) ?_
    refine r_icmp_gt (tgt := 66) rfl rfl dX12_word_47 (fun c174 => ?_) (fun c174 => ?_)
    · refine r_iload_n rfl dX12_word_66 rfl ?_
      refine r_iconst (v := 3) rfl dX12_word_67 (by decide) ?_
      refine r_icmp_ne (tgt := 103) rfl rfl dX12_word_68 (fun c175 => ?_) (fun c175 => ?_)
      · refine r_iload_n rfl dX12_word_103 rfl ?_
        refine r_iconst (v := 3) rfl dX12_word_104 (by decide) ?_
        refine r_icmp_ne (tgt := 140) rfl rfl dX12_word_105 (fun _ => ?_) (fun c => absurd c (by first | exact c175 | exact fun z => z c175))
        refine r_iload_n rfl dX12_word_140 rfl ?_
        refine r_iconst (v := 3) rfl dX12_word_141 (by decide) ?_
        refine r_icmp_ne (tgt := 169) rfl rfl dX12_word_142 (fun _ => ?_) (fun c => absurd c (by first | exact c175 | exact fun z => z c175))
        subst e60
        subst e56
        subst e52
        subst eh62
        exact r_ret dX12_word_169 (rt_v rfl) ⟨rfl, by simp only [mwK, mwV, if_neg (not_not_intro c65), if_pos c174, if_pos c175, va_up_up], rfl⟩
      · refine r_iload_n rfl dX12_word_71 rfl ?_
        refine r_bipush (v := 111) rfl dX12_word_72 (by decide) ?_
        refine r_icmp_ne (tgt := 103) rfl rfl dX12_word_74 (fun c176 => ?_) (fun c176 => ?_)
        · refine r_iload_n rfl dX12_word_103 rfl ?_
          refine r_iconst (v := 3) rfl dX12_word_104 (by decide) ?_
          refine r_icmp_ne (tgt := 140) rfl rfl dX12_word_105 (fun c => absurd c (by first | exact c175 | exact fun z => z c175)) (fun _ => ?_)
          refine r_iload_n rfl dX12_word_108 rfl ?_
          refine r_bipush (v := 116) rfl dX12_word_109 (by decide) ?_
          refine r_icmp_ne (tgt := 140) rfl rfl dX12_word_111 (fun c177 => ?_) (fun c177 => ?_)
          · refine r_iload_n rfl dX12_word_140 rfl ?_
            refine r_iconst (v := 3) rfl dX12_word_141 (by decide) ?_
            refine r_icmp_ne (tgt := 169) rfl rfl dX12_word_142 (fun c => absurd c (by first | exact c175 | exact fun z => z c175)) (fun _ => ?_)
            refine r_iload_n rfl dX12_word_145 rfl ?_
            refine r_bipush (v := 99) rfl dX12_word_146 (by decide) ?_
            refine r_icmp_ne (tgt := 169) rfl rfl dX12_word_148 (fun c178 => ?_) (fun c178 => ?_)
            · subst e60
              subst e56
              subst e52
              subst eh62
              exact r_ret dX12_word_169 (rt_v rfl) ⟨rfl, by simp only [mwK, mwV, if_neg (not_not_intro c65), if_pos c174, if_neg (not_not_intro c175), if_pos c176, if_pos c177, if_pos c178, va_up_up], rfl⟩
            · refine r_iload_n rfl dX12_word_151 rfl ?_
              refine r_bipush (v := 117) rfl dX12_word_152 (by decide) ?_
              refine r_icmp_ne (tgt := 169) rfl rfl dX12_word_154 (fun c179 => ?_) (fun c179 => ?_)
              · subst e60
                subst e56
                subst e52
                subst eh62
                exact r_ret dX12_word_169 (rt_v rfl) ⟨rfl, by simp only [mwK, mwV, if_neg (not_not_intro c65), if_pos c174, if_neg (not_not_intro c175), if_pos c176, if_pos c177, if_neg (not_not_intro c178), if_pos c179, va_up_up], rfl⟩
              · refine r_iload rfl dX12_word_157 rfl ?_
                refine r_bipush (v := 116) rfl dX12_word_159 (by decide) ?_
                refine r_icmp_ne (tgt := 169) rfl rfl dX12_word_161 (fun c180 => ?_) (fun c180 => ?_)
                · subst e60
                  subst e56
                  subst e52
                  subst eh62
                  exact r_ret dX12_word_169 (rt_v rfl) ⟨rfl, by simp only [mwK, mwV, if_neg (not_not_intro c65), if_pos c174, if_neg (not_not_intro c175), if_pos c176, if_pos c177, if_neg (not_not_intro c178), if_neg (not_not_intro c179), if_pos c180, va_up_up], rfl⟩
                · refine r_aload_n rfl dX12_word_164 rfl ?_
                  refine r_iconst (v := 3) rfl dX12_word_165 (by decide) ?_
                  refine r_putv 5 (fs' := [.int th, .long tr, .ref 421, .int (nI n), .int nx, .int 3, .int (nI q), .int va, .int fa, .int cl, .int md, .int ss, .int wg, .ref 422, .ref 423, .ref 424, .ref 425, .ref 426, .ref 427, .ref 428, .ref 429, .ref 430, .ref 431, .ref 432, .ref 433]) rfl dX12_word_166 (show 2 ≤ 420 ∧ 420 < 434 by decide) f63 (fp_X12_76 rfl _) (Nat.le_of_ble_eq_true rfl) rfl (fun h181 eh182 => ?_)
                  have f183 : h181 420 = .inr (12, [.int th, .long tr, .ref 421, .int (nI n), .int nx, .int 3, .int (nI q), .int va, .int fa, .int cl, .int md, .int ss, .int wg, .ref 422, .ref 423, .ref 424, .ref 425, .ref 426, .ref 427, .ref 428, .ref 429, .ref 430, .ref 431, .ref 432, .ref 433]) := by rw [eh182]; exact va_up_self _ _ _
                  have f184 : h181 421 = .inl (0, 300, .inl g) := by rw [eh182, va_up_ne _ _ (fun q => by rw [q, f63] at f64; cases f64)]; exact f64
                  subst e60
                  subst e56
                  subst e52
                  subst eh182
                  subst eh62
                  exact r_ret dX12_word_169 (rt_v rfl) ⟨rfl, by simp only [mwK, mwV, if_neg (not_not_intro c65), if_pos c174, if_neg (not_not_intro c175), if_pos c176, if_pos c177, if_neg (not_not_intro c178), if_neg (not_not_intro c179), if_neg (not_not_intro c180), va_up_up], rfl⟩
          · refine r_iload_n rfl dX12_word_114 rfl ?_
            refine r_bipush (v := 119) rfl dX12_word_115 (by decide) ?_
            refine r_icmp_ne (tgt := 140) rfl rfl dX12_word_117 (fun c185 => ?_) (fun c185 => ?_)
            · refine r_iload_n rfl dX12_word_140 rfl ?_
              refine r_iconst (v := 3) rfl dX12_word_141 (by decide) ?_
              refine r_icmp_ne (tgt := 169) rfl rfl dX12_word_142 (fun c => absurd c (by first | exact c175 | exact fun z => z c175)) (fun _ => ?_)
              refine r_iload_n rfl dX12_word_145 rfl ?_
              refine r_bipush (v := 99) rfl dX12_word_146 (by decide) ?_
              refine r_icmp_ne (tgt := 169) rfl rfl dX12_word_148 (fun c186 => ?_) (fun c186 => ?_)
              · subst e60
                subst e56
                subst e52
                subst eh62
                exact r_ret dX12_word_169 (rt_v rfl) ⟨rfl, by simp only [mwK, mwV, if_neg (not_not_intro c65), if_pos c174, if_neg (not_not_intro c175), if_pos c176, if_neg (not_not_intro c177), if_pos c185, if_pos c186, va_up_up], rfl⟩
              · refine r_iload_n rfl dX12_word_151 rfl ?_
                refine r_bipush (v := 117) rfl dX12_word_152 (by decide) ?_
                refine r_icmp_ne (tgt := 169) rfl rfl dX12_word_154 (fun c187 => ?_) (fun c187 => ?_)
                · subst e60
                  subst e56
                  subst e52
                  subst eh62
                  exact r_ret dX12_word_169 (rt_v rfl) ⟨rfl, by simp only [mwK, mwV, if_neg (not_not_intro c65), if_pos c174, if_neg (not_not_intro c175), if_pos c176, if_neg (not_not_intro c177), if_pos c185, if_neg (not_not_intro c186), if_pos c187, va_up_up], rfl⟩
                · refine r_iload rfl dX12_word_157 rfl ?_
                  refine r_bipush (v := 116) rfl dX12_word_159 (by decide) ?_
                  refine r_icmp_ne (tgt := 169) rfl rfl dX12_word_161 (fun c188 => ?_) (fun c188 => ?_)
                  · subst e60
                    subst e56
                    subst e52
                    subst eh62
                    exact r_ret dX12_word_169 (rt_v rfl) ⟨rfl, by simp only [mwK, mwV, if_neg (not_not_intro c65), if_pos c174, if_neg (not_not_intro c175), if_pos c176, if_neg (not_not_intro c177), if_pos c185, if_neg (not_not_intro c186), if_neg (not_not_intro c187), if_pos c188, va_up_up], rfl⟩
                  · refine r_aload_n rfl dX12_word_164 rfl ?_
                    refine r_iconst (v := 3) rfl dX12_word_165 (by decide) ?_
                    refine r_putv 5 (fs' := [.int th, .long tr, .ref 421, .int (nI n), .int nx, .int 3, .int (nI q), .int va, .int fa, .int cl, .int md, .int ss, .int wg, .ref 422, .ref 423, .ref 424, .ref 425, .ref 426, .ref 427, .ref 428, .ref 429, .ref 430, .ref 431, .ref 432, .ref 433]) rfl dX12_word_166 (show 2 ≤ 420 ∧ 420 < 434 by decide) f63 (fp_X12_76 rfl _) (Nat.le_of_ble_eq_true rfl) rfl (fun h189 eh190 => ?_)
                    have f191 : h189 420 = .inr (12, [.int th, .long tr, .ref 421, .int (nI n), .int nx, .int 3, .int (nI q), .int va, .int fa, .int cl, .int md, .int ss, .int wg, .ref 422, .ref 423, .ref 424, .ref 425, .ref 426, .ref 427, .ref 428, .ref 429, .ref 430, .ref 431, .ref 432, .ref 433]) := by rw [eh190]; exact va_up_self _ _ _
                    have f192 : h189 421 = .inl (0, 300, .inl g) := by rw [eh190, va_up_ne _ _ (fun q => by rw [q, f63] at f64; cases f64)]; exact f64
                    subst e60
                    subst e56
                    subst e52
                    subst eh190
                    subst eh62
                    exact r_ret dX12_word_169 (rt_v rfl) ⟨rfl, by simp only [mwK, mwV, if_neg (not_not_intro c65), if_pos c174, if_neg (not_not_intro c175), if_pos c176, if_neg (not_not_intro c177), if_pos c185, if_neg (not_not_intro c186), if_neg (not_not_intro c187), if_neg (not_not_intro c188), va_up_up], rfl⟩
            · refine r_iload rfl dX12_word_120 rfl ?_
              refine r_bipush (v := 111) rfl dX12_word_122 (by decide) ?_
              refine r_icmp_ne (tgt := 140) rfl rfl dX12_word_124 (fun c193 => ?_) (fun c193 => ?_)
              · refine r_iload_n rfl dX12_word_140 rfl ?_
                refine r_iconst (v := 3) rfl dX12_word_141 (by decide) ?_
                refine r_icmp_ne (tgt := 169) rfl rfl dX12_word_142 (fun c => absurd c (by first | exact c175 | exact fun z => z c175)) (fun _ => ?_)
                refine r_iload_n rfl dX12_word_145 rfl ?_
                refine r_bipush (v := 99) rfl dX12_word_146 (by decide) ?_
                refine r_icmp_ne (tgt := 169) rfl rfl dX12_word_148 (fun c194 => ?_) (fun c194 => ?_)
                · subst e60
                  subst e56
                  subst e52
                  subst eh62
                  exact r_ret dX12_word_169 (rt_v rfl) ⟨rfl, by simp only [mwK, mwV, if_neg (not_not_intro c65), if_pos c174, if_neg (not_not_intro c175), if_pos c176, if_neg (not_not_intro c177), if_neg (not_not_intro c185), if_pos c193, if_pos c194, va_up_up], rfl⟩
                · refine r_iload_n rfl dX12_word_151 rfl ?_
                  refine r_bipush (v := 117) rfl dX12_word_152 (by decide) ?_
                  refine r_icmp_ne (tgt := 169) rfl rfl dX12_word_154 (fun c195 => ?_) (fun c195 => ?_)
                  · subst e60
                    subst e56
                    subst e52
                    subst eh62
                    exact r_ret dX12_word_169 (rt_v rfl) ⟨rfl, by simp only [mwK, mwV, if_neg (not_not_intro c65), if_pos c174, if_neg (not_not_intro c175), if_pos c176, if_neg (not_not_intro c177), if_neg (not_not_intro c185), if_pos c193, if_neg (not_not_intro c194), if_pos c195, va_up_up], rfl⟩
                  · refine r_iload rfl dX12_word_157 rfl ?_
                    refine r_bipush (v := 116) rfl dX12_word_159 (by decide) ?_
                    refine r_icmp_ne (tgt := 169) rfl rfl dX12_word_161 (fun c196 => ?_) (fun c196 => ?_)
                    · subst e60
                      subst e56
                      subst e52
                      subst eh62
                      exact r_ret dX12_word_169 (rt_v rfl) ⟨rfl, by simp only [mwK, mwV, if_neg (not_not_intro c65), if_pos c174, if_neg (not_not_intro c175), if_pos c176, if_neg (not_not_intro c177), if_neg (not_not_intro c185), if_pos c193, if_neg (not_not_intro c194), if_neg (not_not_intro c195), if_pos c196, va_up_up], rfl⟩
                    · refine r_aload_n rfl dX12_word_164 rfl ?_
                      refine r_iconst (v := 3) rfl dX12_word_165 (by decide) ?_
                      refine r_putv 5 (fs' := [.int th, .long tr, .ref 421, .int (nI n), .int nx, .int 3, .int (nI q), .int va, .int fa, .int cl, .int md, .int ss, .int wg, .ref 422, .ref 423, .ref 424, .ref 425, .ref 426, .ref 427, .ref 428, .ref 429, .ref 430, .ref 431, .ref 432, .ref 433]) rfl dX12_word_166 (show 2 ≤ 420 ∧ 420 < 434 by decide) f63 (fp_X12_76 rfl _) (Nat.le_of_ble_eq_true rfl) rfl (fun h197 eh198 => ?_)
                      have f199 : h197 420 = .inr (12, [.int th, .long tr, .ref 421, .int (nI n), .int nx, .int 3, .int (nI q), .int va, .int fa, .int cl, .int md, .int ss, .int wg, .ref 422, .ref 423, .ref 424, .ref 425, .ref 426, .ref 427, .ref 428, .ref 429, .ref 430, .ref 431, .ref 432, .ref 433]) := by rw [eh198]; exact va_up_self _ _ _
                      have f200 : h197 421 = .inl (0, 300, .inl g) := by rw [eh198, va_up_ne _ _ (fun q => by rw [q, f63] at f64; cases f64)]; exact f64
                      subst e60
                      subst e56
                      subst e52
                      subst eh198
                      subst eh62
                      exact r_ret dX12_word_169 (rt_v rfl) ⟨rfl, by simp only [mwK, mwV, if_neg (not_not_intro c65), if_pos c174, if_neg (not_not_intro c175), if_pos c176, if_neg (not_not_intro c177), if_neg (not_not_intro c185), if_pos c193, if_neg (not_not_intro c194), if_neg (not_not_intro c195), if_neg (not_not_intro c196), va_up_up], rfl⟩
              · refine r_aload_n rfl dX12_word_127 rfl ?_
                refine r_iconst (v := 2) rfl dX12_word_128 (by decide) ?_
                refine r_putv 5 (fs' := [.int th, .long tr, .ref 421, .int (nI n), .int nx, .int 2, .int (nI q), .int va, .int fa, .int cl, .int md, .int ss, .int wg, .ref 422, .ref 423, .ref 424, .ref 425, .ref 426, .ref 427, .ref 428, .ref 429, .ref 430, .ref 431, .ref 432, .ref 433]) rfl dX12_word_129 (show 2 ≤ 420 ∧ 420 < 434 by decide) f63 (fp_X12_76 rfl _) (Nat.le_of_ble_eq_true rfl) rfl (fun h201 eh202 => ?_)
                have f203 : h201 420 = .inr (12, [.int th, .long tr, .ref 421, .int (nI n), .int nx, .int 2, .int (nI q), .int va, .int fa, .int cl, .int md, .int ss, .int wg, .ref 422, .ref 423, .ref 424, .ref 425, .ref 426, .ref 427, .ref 428, .ref 429, .ref 430, .ref 431, .ref 432, .ref 433]) := by rw [eh202]; exact va_up_self _ _ _
                have f204 : h201 421 = .inl (0, 300, .inl g) := by rw [eh202, va_up_ne _ _ (fun q => by rw [q, f63] at f64; cases f64)]; exact f64
                refine r_aload_n rfl dX12_word_132 rfl ?_
                refine r_iconst (v := 2) rfl dX12_word_133 (by decide) ?_
                refine r_putv 7 (fs' := [.int th, .long tr, .ref 421, .int (nI n), .int nx, .int 2, .int (nI q), .int 2, .int fa, .int cl, .int md, .int ss, .int wg, .ref 422, .ref 423, .ref 424, .ref 425, .ref 426, .ref 427, .ref 428, .ref 429, .ref 430, .ref 431, .ref 432, .ref 433]) rfl dX12_word_134 (show 2 ≤ 420 ∧ 420 < 434 by decide) f203 (fp_X12_79 rfl _) (Nat.le_of_ble_eq_true rfl) rfl (fun h205 eh206 => ?_)
                have f207 : h205 420 = .inr (12, [.int th, .long tr, .ref 421, .int (nI n), .int nx, .int 2, .int (nI q), .int 2, .int fa, .int cl, .int md, .int ss, .int wg, .ref 422, .ref 423, .ref 424, .ref 425, .ref 426, .ref 427, .ref 428, .ref 429, .ref 430, .ref 431, .ref 432, .ref 433]) := by rw [eh206]; exact va_up_self _ _ _
                have f208 : h205 421 = .inl (0, 300, .inl g) := by rw [eh206, va_up_ne _ _ (fun q => by rw [q, f203] at f204; cases f204)]; exact f204
                refine r_goto (pc' := 169) rfl dX12_word_137 ?_
                subst e60
                subst e56
                subst e52
                subst eh206
                subst eh202
                subst eh62
                exact r_ret dX12_word_169 (rt_v rfl) ⟨rfl, by simp only [mwK, mwV, if_neg (not_not_intro c65), if_pos c174, if_neg (not_not_intro c175), if_pos c176, if_neg (not_not_intro c177), if_neg (not_not_intro c185), if_neg (not_not_intro c193), va_up_up], rfl⟩
        · refine r_iload_n rfl dX12_word_77 rfl ?_
          refine r_bipush (v := 110) rfl dX12_word_78 (by decide) ?_
          refine r_icmp_ne (tgt := 103) rfl rfl dX12_word_80 (fun c209 => ?_) (fun c209 => ?_)
          · refine r_iload_n rfl dX12_word_103 rfl ?_
            refine r_iconst (v := 3) rfl dX12_word_104 (by decide) ?_
            refine r_icmp_ne (tgt := 140) rfl rfl dX12_word_105 (fun c => absurd c (by first | exact c175 | exact fun z => z c175)) (fun _ => ?_)
            refine r_iload_n rfl dX12_word_108 rfl ?_
            refine r_bipush (v := 116) rfl dX12_word_109 (by decide) ?_
            refine r_icmp_ne (tgt := 140) rfl rfl dX12_word_111 (fun c210 => ?_) (fun c210 => ?_)
            · refine r_iload_n rfl dX12_word_140 rfl ?_
              refine r_iconst (v := 3) rfl dX12_word_141 (by decide) ?_
              refine r_icmp_ne (tgt := 169) rfl rfl dX12_word_142 (fun c => absurd c (by first | exact c175 | exact fun z => z c175)) (fun _ => ?_)
              refine r_iload_n rfl dX12_word_145 rfl ?_
              refine r_bipush (v := 99) rfl dX12_word_146 (by decide) ?_
              refine r_icmp_ne (tgt := 169) rfl rfl dX12_word_148 (fun c211 => ?_) (fun c211 => ?_)
              · subst e60
                subst e56
                subst e52
                subst eh62
                exact r_ret dX12_word_169 (rt_v rfl) ⟨rfl, by simp only [mwK, mwV, if_neg (not_not_intro c65), if_pos c174, if_neg (not_not_intro c175), if_neg (not_not_intro c176), if_pos c209, if_pos c210, if_pos c211, va_up_up], rfl⟩
              · refine r_iload_n rfl dX12_word_151 rfl ?_
                refine r_bipush (v := 117) rfl dX12_word_152 (by decide) ?_
                refine r_icmp_ne (tgt := 169) rfl rfl dX12_word_154 (fun c212 => ?_) (fun c212 => ?_)
                · subst e60
                  subst e56
                  subst e52
                  subst eh62
                  exact r_ret dX12_word_169 (rt_v rfl) ⟨rfl, by simp only [mwK, mwV, if_neg (not_not_intro c65), if_pos c174, if_neg (not_not_intro c175), if_neg (not_not_intro c176), if_pos c209, if_pos c210, if_neg (not_not_intro c211), if_pos c212, va_up_up], rfl⟩
                · refine r_iload rfl dX12_word_157 rfl ?_
                  refine r_bipush (v := 116) rfl dX12_word_159 (by decide) ?_
                  refine r_icmp_ne (tgt := 169) rfl rfl dX12_word_161 (fun c213 => ?_) (fun c213 => ?_)
                  · subst e60
                    subst e56
                    subst e52
                    subst eh62
                    exact r_ret dX12_word_169 (rt_v rfl) ⟨rfl, by simp only [mwK, mwV, if_neg (not_not_intro c65), if_pos c174, if_neg (not_not_intro c175), if_neg (not_not_intro c176), if_pos c209, if_pos c210, if_neg (not_not_intro c211), if_neg (not_not_intro c212), if_pos c213, va_up_up], rfl⟩
                  · refine r_aload_n rfl dX12_word_164 rfl ?_
                    refine r_iconst (v := 3) rfl dX12_word_165 (by decide) ?_
                    refine r_putv 5 (fs' := [.int th, .long tr, .ref 421, .int (nI n), .int nx, .int 3, .int (nI q), .int va, .int fa, .int cl, .int md, .int ss, .int wg, .ref 422, .ref 423, .ref 424, .ref 425, .ref 426, .ref 427, .ref 428, .ref 429, .ref 430, .ref 431, .ref 432, .ref 433]) rfl dX12_word_166 (show 2 ≤ 420 ∧ 420 < 434 by decide) f63 (fp_X12_76 rfl _) (Nat.le_of_ble_eq_true rfl) rfl (fun h214 eh215 => ?_)
                    have f216 : h214 420 = .inr (12, [.int th, .long tr, .ref 421, .int (nI n), .int nx, .int 3, .int (nI q), .int va, .int fa, .int cl, .int md, .int ss, .int wg, .ref 422, .ref 423, .ref 424, .ref 425, .ref 426, .ref 427, .ref 428, .ref 429, .ref 430, .ref 431, .ref 432, .ref 433]) := by rw [eh215]; exact va_up_self _ _ _
                    have f217 : h214 421 = .inl (0, 300, .inl g) := by rw [eh215, va_up_ne _ _ (fun q => by rw [q, f63] at f64; cases f64)]; exact f64
                    subst e60
                    subst e56
                    subst e52
                    subst eh215
                    subst eh62
                    exact r_ret dX12_word_169 (rt_v rfl) ⟨rfl, by simp only [mwK, mwV, if_neg (not_not_intro c65), if_pos c174, if_neg (not_not_intro c175), if_neg (not_not_intro c176), if_pos c209, if_pos c210, if_neg (not_not_intro c211), if_neg (not_not_intro c212), if_neg (not_not_intro c213), va_up_up], rfl⟩
            · refine r_iload_n rfl dX12_word_114 rfl ?_
              refine r_bipush (v := 119) rfl dX12_word_115 (by decide) ?_
              refine r_icmp_ne (tgt := 140) rfl rfl dX12_word_117 (fun c218 => ?_) (fun c218 => ?_)
              · refine r_iload_n rfl dX12_word_140 rfl ?_
                refine r_iconst (v := 3) rfl dX12_word_141 (by decide) ?_
                refine r_icmp_ne (tgt := 169) rfl rfl dX12_word_142 (fun c => absurd c (by first | exact c175 | exact fun z => z c175)) (fun _ => ?_)
                refine r_iload_n rfl dX12_word_145 rfl ?_
                refine r_bipush (v := 99) rfl dX12_word_146 (by decide) ?_
                refine r_icmp_ne (tgt := 169) rfl rfl dX12_word_148 (fun c219 => ?_) (fun c219 => ?_)
                · subst e60
                  subst e56
                  subst e52
                  subst eh62
                  exact r_ret dX12_word_169 (rt_v rfl) ⟨rfl, by simp only [mwK, mwV, if_neg (not_not_intro c65), if_pos c174, if_neg (not_not_intro c175), if_neg (not_not_intro c176), if_pos c209, if_neg (not_not_intro c210), if_pos c218, if_pos c219, va_up_up], rfl⟩
                · refine r_iload_n rfl dX12_word_151 rfl ?_
                  refine r_bipush (v := 117) rfl dX12_word_152 (by decide) ?_
                  refine r_icmp_ne (tgt := 169) rfl rfl dX12_word_154 (fun c220 => ?_) (fun c220 => ?_)
                  · subst e60
                    subst e56
                    subst e52
                    subst eh62
                    exact r_ret dX12_word_169 (rt_v rfl) ⟨rfl, by simp only [mwK, mwV, if_neg (not_not_intro c65), if_pos c174, if_neg (not_not_intro c175), if_neg (not_not_intro c176), if_pos c209, if_neg (not_not_intro c210), if_pos c218, if_neg (not_not_intro c219), if_pos c220, va_up_up], rfl⟩
                  · refine r_iload rfl dX12_word_157 rfl ?_
                    refine r_bipush (v := 116) rfl dX12_word_159 (by decide) ?_
                    refine r_icmp_ne (tgt := 169) rfl rfl dX12_word_161 (fun c221 => ?_) (fun c221 => ?_)
                    · subst e60
                      subst e56
                      subst e52
                      subst eh62
                      exact r_ret dX12_word_169 (rt_v rfl) ⟨rfl, by simp only [mwK, mwV, if_neg (not_not_intro c65), if_pos c174, if_neg (not_not_intro c175), if_neg (not_not_intro c176), if_pos c209, if_neg (not_not_intro c210), if_pos c218, if_neg (not_not_intro c219), if_neg (not_not_intro c220), if_pos c221, va_up_up], rfl⟩
                    · refine r_aload_n rfl dX12_word_164 rfl ?_
                      refine r_iconst (v := 3) rfl dX12_word_165 (by decide) ?_
                      refine r_putv 5 (fs' := [.int th, .long tr, .ref 421, .int (nI n), .int nx, .int 3, .int (nI q), .int va, .int fa, .int cl, .int md, .int ss, .int wg, .ref 422, .ref 423, .ref 424, .ref 425, .ref 426, .ref 427, .ref 428, .ref 429, .ref 430, .ref 431, .ref 432, .ref 433]) rfl dX12_word_166 (show 2 ≤ 420 ∧ 420 < 434 by decide) f63 (fp_X12_76 rfl _) (Nat.le_of_ble_eq_true rfl) rfl (fun h222 eh223 => ?_)
                      have f224 : h222 420 = .inr (12, [.int th, .long tr, .ref 421, .int (nI n), .int nx, .int 3, .int (nI q), .int va, .int fa, .int cl, .int md, .int ss, .int wg, .ref 422, .ref 423, .ref 424, .ref 425, .ref 426, .ref 427, .ref 428, .ref 429, .ref 430, .ref 431, .ref 432, .ref 433]) := by rw [eh223]; exact va_up_self _ _ _
                      have f225 : h222 421 = .inl (0, 300, .inl g) := by rw [eh223, va_up_ne _ _ (fun q => by rw [q, f63] at f64; cases f64)]; exact f64
                      subst e60
                      subst e56
                      subst e52
                      subst eh223
                      subst eh62
                      exact r_ret dX12_word_169 (rt_v rfl) ⟨rfl, by simp only [mwK, mwV, if_neg (not_not_intro c65), if_pos c174, if_neg (not_not_intro c175), if_neg (not_not_intro c176), if_pos c209, if_neg (not_not_intro c210), if_pos c218, if_neg (not_not_intro c219), if_neg (not_not_intro c220), if_neg (not_not_intro c221), va_up_up], rfl⟩
              · refine r_iload rfl dX12_word_120 rfl ?_
                refine r_bipush (v := 111) rfl dX12_word_122 (by decide) ?_
                refine r_icmp_ne (tgt := 140) rfl rfl dX12_word_124 (fun c226 => ?_) (fun c226 => ?_)
                · refine r_iload_n rfl dX12_word_140 rfl ?_
                  refine r_iconst (v := 3) rfl dX12_word_141 (by decide) ?_
                  refine r_icmp_ne (tgt := 169) rfl rfl dX12_word_142 (fun c => absurd c (by first | exact c175 | exact fun z => z c175)) (fun _ => ?_)
                  refine r_iload_n rfl dX12_word_145 rfl ?_
                  refine r_bipush (v := 99) rfl dX12_word_146 (by decide) ?_
                  refine r_icmp_ne (tgt := 169) rfl rfl dX12_word_148 (fun c227 => ?_) (fun c227 => ?_)
                  · subst e60
                    subst e56
                    subst e52
                    subst eh62
                    exact r_ret dX12_word_169 (rt_v rfl) ⟨rfl, by simp only [mwK, mwV, if_neg (not_not_intro c65), if_pos c174, if_neg (not_not_intro c175), if_neg (not_not_intro c176), if_pos c209, if_neg (not_not_intro c210), if_neg (not_not_intro c218), if_pos c226, if_pos c227, va_up_up], rfl⟩
                  · refine r_iload_n rfl dX12_word_151 rfl ?_
                    refine r_bipush (v := 117) rfl dX12_word_152 (by decide) ?_
                    refine r_icmp_ne (tgt := 169) rfl rfl dX12_word_154 (fun c228 => ?_) (fun c228 => ?_)
                    · subst e60
                      subst e56
                      subst e52
                      subst eh62
                      exact r_ret dX12_word_169 (rt_v rfl) ⟨rfl, by simp only [mwK, mwV, if_neg (not_not_intro c65), if_pos c174, if_neg (not_not_intro c175), if_neg (not_not_intro c176), if_pos c209, if_neg (not_not_intro c210), if_neg (not_not_intro c218), if_pos c226, if_neg (not_not_intro c227), if_pos c228, va_up_up], rfl⟩
                    · refine r_iload rfl dX12_word_157 rfl ?_
                      refine r_bipush (v := 116) rfl dX12_word_159 (by decide) ?_
                      refine r_icmp_ne (tgt := 169) rfl rfl dX12_word_161 (fun c229 => ?_) (fun c229 => ?_)
                      · subst e60
                        subst e56
                        subst e52
                        subst eh62
                        exact r_ret dX12_word_169 (rt_v rfl) ⟨rfl, by simp only [mwK, mwV, if_neg (not_not_intro c65), if_pos c174, if_neg (not_not_intro c175), if_neg (not_not_intro c176), if_pos c209, if_neg (not_not_intro c210), if_neg (not_not_intro c218), if_pos c226, if_neg (not_not_intro c227), if_neg (not_not_intro c228), if_pos c229, va_up_up], rfl⟩
                      · refine r_aload_n rfl dX12_word_164 rfl ?_
                        refine r_iconst (v := 3) rfl dX12_word_165 (by decide) ?_
                        refine r_putv 5 (fs' := [.int th, .long tr, .ref 421, .int (nI n), .int nx, .int 3, .int (nI q), .int va, .int fa, .int cl, .int md, .int ss, .int wg, .ref 422, .ref 423, .ref 424, .ref 425, .ref 426, .ref 427, .ref 428, .ref 429, .ref 430, .ref 431, .ref 432, .ref 433]) rfl dX12_word_166 (show 2 ≤ 420 ∧ 420 < 434 by decide) f63 (fp_X12_76 rfl _) (Nat.le_of_ble_eq_true rfl) rfl (fun h230 eh231 => ?_)
                        have f232 : h230 420 = .inr (12, [.int th, .long tr, .ref 421, .int (nI n), .int nx, .int 3, .int (nI q), .int va, .int fa, .int cl, .int md, .int ss, .int wg, .ref 422, .ref 423, .ref 424, .ref 425, .ref 426, .ref 427, .ref 428, .ref 429, .ref 430, .ref 431, .ref 432, .ref 433]) := by rw [eh231]; exact va_up_self _ _ _
                        have f233 : h230 421 = .inl (0, 300, .inl g) := by rw [eh231, va_up_ne _ _ (fun q => by rw [q, f63] at f64; cases f64)]; exact f64
                        subst e60
                        subst e56
                        subst e52
                        subst eh231
                        subst eh62
                        exact r_ret dX12_word_169 (rt_v rfl) ⟨rfl, by simp only [mwK, mwV, if_neg (not_not_intro c65), if_pos c174, if_neg (not_not_intro c175), if_neg (not_not_intro c176), if_pos c209, if_neg (not_not_intro c210), if_neg (not_not_intro c218), if_pos c226, if_neg (not_not_intro c227), if_neg (not_not_intro c228), if_neg (not_not_intro c229), va_up_up], rfl⟩
                · refine r_aload_n rfl dX12_word_127 rfl ?_
                  refine r_iconst (v := 2) rfl dX12_word_128 (by decide) ?_
                  refine r_putv 5 (fs' := [.int th, .long tr, .ref 421, .int (nI n), .int nx, .int 2, .int (nI q), .int va, .int fa, .int cl, .int md, .int ss, .int wg, .ref 422, .ref 423, .ref 424, .ref 425, .ref 426, .ref 427, .ref 428, .ref 429, .ref 430, .ref 431, .ref 432, .ref 433]) rfl dX12_word_129 (show 2 ≤ 420 ∧ 420 < 434 by decide) f63 (fp_X12_76 rfl _) (Nat.le_of_ble_eq_true rfl) rfl (fun h234 eh235 => ?_)
                  have f236 : h234 420 = .inr (12, [.int th, .long tr, .ref 421, .int (nI n), .int nx, .int 2, .int (nI q), .int va, .int fa, .int cl, .int md, .int ss, .int wg, .ref 422, .ref 423, .ref 424, .ref 425, .ref 426, .ref 427, .ref 428, .ref 429, .ref 430, .ref 431, .ref 432, .ref 433]) := by rw [eh235]; exact va_up_self _ _ _
                  have f237 : h234 421 = .inl (0, 300, .inl g) := by rw [eh235, va_up_ne _ _ (fun q => by rw [q, f63] at f64; cases f64)]; exact f64
                  refine r_aload_n rfl dX12_word_132 rfl ?_
                  refine r_iconst (v := 2) rfl dX12_word_133 (by decide) ?_
                  refine r_putv 7 (fs' := [.int th, .long tr, .ref 421, .int (nI n), .int nx, .int 2, .int (nI q), .int 2, .int fa, .int cl, .int md, .int ss, .int wg, .ref 422, .ref 423, .ref 424, .ref 425, .ref 426, .ref 427, .ref 428, .ref 429, .ref 430, .ref 431, .ref 432, .ref 433]) rfl dX12_word_134 (show 2 ≤ 420 ∧ 420 < 434 by decide) f236 (fp_X12_79 rfl _) (Nat.le_of_ble_eq_true rfl) rfl (fun h238 eh239 => ?_)
                  have f240 : h238 420 = .inr (12, [.int th, .long tr, .ref 421, .int (nI n), .int nx, .int 2, .int (nI q), .int 2, .int fa, .int cl, .int md, .int ss, .int wg, .ref 422, .ref 423, .ref 424, .ref 425, .ref 426, .ref 427, .ref 428, .ref 429, .ref 430, .ref 431, .ref 432, .ref 433]) := by rw [eh239]; exact va_up_self _ _ _
                  have f241 : h238 421 = .inl (0, 300, .inl g) := by rw [eh239, va_up_ne _ _ (fun q => by rw [q, f236] at f237; cases f237)]; exact f237
                  refine r_goto (pc' := 169) rfl dX12_word_137 ?_
                  subst e60
                  subst e56
                  subst e52
                  subst eh239
                  subst eh235
                  subst eh62
                  exact r_ret dX12_word_169 (rt_v rfl) ⟨rfl, by simp only [mwK, mwV, if_neg (not_not_intro c65), if_pos c174, if_neg (not_not_intro c175), if_neg (not_not_intro c176), if_pos c209, if_neg (not_not_intro c210), if_neg (not_not_intro c218), if_neg (not_not_intro c226), va_up_up], rfl⟩
          · refine r_iload rfl dX12_word_83 rfl ?_
            refine r_bipush (v := 101) rfl dX12_word_85 (by decide) ?_
            refine r_icmp_ne (tgt := 103) rfl rfl dX12_word_87 (fun c242 => ?_) (fun c242 => ?_)
            · refine r_iload_n rfl dX12_word_103 rfl ?_
              refine r_iconst (v := 3) rfl dX12_word_104 (by decide) ?_
              refine r_icmp_ne (tgt := 140) rfl rfl dX12_word_105 (fun c => absurd c (by first | exact c175 | exact fun z => z c175)) (fun _ => ?_)
              refine r_iload_n rfl dX12_word_108 rfl ?_
              refine r_bipush (v := 116) rfl dX12_word_109 (by decide) ?_
              refine r_icmp_ne (tgt := 140) rfl rfl dX12_word_111 (fun c243 => ?_) (fun c243 => ?_)
              · refine r_iload_n rfl dX12_word_140 rfl ?_
                refine r_iconst (v := 3) rfl dX12_word_141 (by decide) ?_
                refine r_icmp_ne (tgt := 169) rfl rfl dX12_word_142 (fun c => absurd c (by first | exact c175 | exact fun z => z c175)) (fun _ => ?_)
                refine r_iload_n rfl dX12_word_145 rfl ?_
                refine r_bipush (v := 99) rfl dX12_word_146 (by decide) ?_
                refine r_icmp_ne (tgt := 169) rfl rfl dX12_word_148 (fun c244 => ?_) (fun c244 => ?_)
                · subst e60
                  subst e56
                  subst e52
                  subst eh62
                  exact r_ret dX12_word_169 (rt_v rfl) ⟨rfl, by simp only [mwK, mwV, if_neg (not_not_intro c65), if_pos c174, if_neg (not_not_intro c175), if_neg (not_not_intro c176), if_neg (not_not_intro c209), if_pos c242, if_pos c243, if_pos c244, va_up_up], rfl⟩
                · refine r_iload_n rfl dX12_word_151 rfl ?_
                  refine r_bipush (v := 117) rfl dX12_word_152 (by decide) ?_
                  refine r_icmp_ne (tgt := 169) rfl rfl dX12_word_154 (fun c245 => ?_) (fun c245 => ?_)
                  · subst e60
                    subst e56
                    subst e52
                    subst eh62
                    exact r_ret dX12_word_169 (rt_v rfl) ⟨rfl, by simp only [mwK, mwV, if_neg (not_not_intro c65), if_pos c174, if_neg (not_not_intro c175), if_neg (not_not_intro c176), if_neg (not_not_intro c209), if_pos c242, if_pos c243, if_neg (not_not_intro c244), if_pos c245, va_up_up], rfl⟩
                  · refine r_iload rfl dX12_word_157 rfl ?_
                    refine r_bipush (v := 116) rfl dX12_word_159 (by decide) ?_
                    refine r_icmp_ne (tgt := 169) rfl rfl dX12_word_161 (fun c246 => ?_) (fun c246 => ?_)
                    · subst e60
                      subst e56
                      subst e52
                      subst eh62
                      exact r_ret dX12_word_169 (rt_v rfl) ⟨rfl, by simp only [mwK, mwV, if_neg (not_not_intro c65), if_pos c174, if_neg (not_not_intro c175), if_neg (not_not_intro c176), if_neg (not_not_intro c209), if_pos c242, if_pos c243, if_neg (not_not_intro c244), if_neg (not_not_intro c245), if_pos c246, va_up_up], rfl⟩
                    · refine r_aload_n rfl dX12_word_164 rfl ?_
                      refine r_iconst (v := 3) rfl dX12_word_165 (by decide) ?_
                      refine r_putv 5 (fs' := [.int th, .long tr, .ref 421, .int (nI n), .int nx, .int 3, .int (nI q), .int va, .int fa, .int cl, .int md, .int ss, .int wg, .ref 422, .ref 423, .ref 424, .ref 425, .ref 426, .ref 427, .ref 428, .ref 429, .ref 430, .ref 431, .ref 432, .ref 433]) rfl dX12_word_166 (show 2 ≤ 420 ∧ 420 < 434 by decide) f63 (fp_X12_76 rfl _) (Nat.le_of_ble_eq_true rfl) rfl (fun h247 eh248 => ?_)
                      have f249 : h247 420 = .inr (12, [.int th, .long tr, .ref 421, .int (nI n), .int nx, .int 3, .int (nI q), .int va, .int fa, .int cl, .int md, .int ss, .int wg, .ref 422, .ref 423, .ref 424, .ref 425, .ref 426, .ref 427, .ref 428, .ref 429, .ref 430, .ref 431, .ref 432, .ref 433]) := by rw [eh248]; exact va_up_self _ _ _
                      have f250 : h247 421 = .inl (0, 300, .inl g) := by rw [eh248, va_up_ne _ _ (fun q => by rw [q, f63] at f64; cases f64)]; exact f64
                      subst e60
                      subst e56
                      subst e52
                      subst eh248
                      subst eh62
                      exact r_ret dX12_word_169 (rt_v rfl) ⟨rfl, by simp only [mwK, mwV, if_neg (not_not_intro c65), if_pos c174, if_neg (not_not_intro c175), if_neg (not_not_intro c176), if_neg (not_not_intro c209), if_pos c242, if_pos c243, if_neg (not_not_intro c244), if_neg (not_not_intro c245), if_neg (not_not_intro c246), va_up_up], rfl⟩
              · refine r_iload_n rfl dX12_word_114 rfl ?_
                refine r_bipush (v := 119) rfl dX12_word_115 (by decide) ?_
                refine r_icmp_ne (tgt := 140) rfl rfl dX12_word_117 (fun c251 => ?_) (fun c251 => ?_)
                · refine r_iload_n rfl dX12_word_140 rfl ?_
                  refine r_iconst (v := 3) rfl dX12_word_141 (by decide) ?_
                  refine r_icmp_ne (tgt := 169) rfl rfl dX12_word_142 (fun c => absurd c (by first | exact c175 | exact fun z => z c175)) (fun _ => ?_)
                  refine r_iload_n rfl dX12_word_145 rfl ?_
                  refine r_bipush (v := 99) rfl dX12_word_146 (by decide) ?_
                  refine r_icmp_ne (tgt := 169) rfl rfl dX12_word_148 (fun c252 => ?_) (fun c252 => ?_)
                  · subst e60
                    subst e56
                    subst e52
                    subst eh62
                    exact r_ret dX12_word_169 (rt_v rfl) ⟨rfl, by simp only [mwK, mwV, if_neg (not_not_intro c65), if_pos c174, if_neg (not_not_intro c175), if_neg (not_not_intro c176), if_neg (not_not_intro c209), if_pos c242, if_neg (not_not_intro c243), if_pos c251, if_pos c252, va_up_up], rfl⟩
                  · refine r_iload_n rfl dX12_word_151 rfl ?_
                    refine r_bipush (v := 117) rfl dX12_word_152 (by decide) ?_
                    refine r_icmp_ne (tgt := 169) rfl rfl dX12_word_154 (fun c253 => ?_) (fun c253 => ?_)
                    · subst e60
                      subst e56
                      subst e52
                      subst eh62
                      exact r_ret dX12_word_169 (rt_v rfl) ⟨rfl, by simp only [mwK, mwV, if_neg (not_not_intro c65), if_pos c174, if_neg (not_not_intro c175), if_neg (not_not_intro c176), if_neg (not_not_intro c209), if_pos c242, if_neg (not_not_intro c243), if_pos c251, if_neg (not_not_intro c252), if_pos c253, va_up_up], rfl⟩
                    · refine r_iload rfl dX12_word_157 rfl ?_
                      refine r_bipush (v := 116) rfl dX12_word_159 (by decide) ?_
                      refine r_icmp_ne (tgt := 169) rfl rfl dX12_word_161 (fun c254 => ?_) (fun c254 => ?_)
                      · subst e60
                        subst e56
                        subst e52
                        subst eh62
                        exact r_ret dX12_word_169 (rt_v rfl) ⟨rfl, by simp only [mwK, mwV, if_neg (not_not_intro c65), if_pos c174, if_neg (not_not_intro c175), if_neg (not_not_intro c176), if_neg (not_not_intro c209), if_pos c242, if_neg (not_not_intro c243), if_pos c251, if_neg (not_not_intro c252), if_neg (not_not_intro c253), if_pos c254, va_up_up], rfl⟩
                      · refine r_aload_n rfl dX12_word_164 rfl ?_
                        refine r_iconst (v := 3) rfl dX12_word_165 (by decide) ?_
                        refine r_putv 5 (fs' := [.int th, .long tr, .ref 421, .int (nI n), .int nx, .int 3, .int (nI q), .int va, .int fa, .int cl, .int md, .int ss, .int wg, .ref 422, .ref 423, .ref 424, .ref 425, .ref 426, .ref 427, .ref 428, .ref 429, .ref 430, .ref 431, .ref 432, .ref 433]) rfl dX12_word_166 (show 2 ≤ 420 ∧ 420 < 434 by decide) f63 (fp_X12_76 rfl _) (Nat.le_of_ble_eq_true rfl) rfl (fun h255 eh256 => ?_)
                        have f257 : h255 420 = .inr (12, [.int th, .long tr, .ref 421, .int (nI n), .int nx, .int 3, .int (nI q), .int va, .int fa, .int cl, .int md, .int ss, .int wg, .ref 422, .ref 423, .ref 424, .ref 425, .ref 426, .ref 427, .ref 428, .ref 429, .ref 430, .ref 431, .ref 432, .ref 433]) := by rw [eh256]; exact va_up_self _ _ _
                        have f258 : h255 421 = .inl (0, 300, .inl g) := by rw [eh256, va_up_ne _ _ (fun q => by rw [q, f63] at f64; cases f64)]; exact f64
                        subst e60
                        subst e56
                        subst e52
                        subst eh256
                        subst eh62
                        exact r_ret dX12_word_169 (rt_v rfl) ⟨rfl, by simp only [mwK, mwV, if_neg (not_not_intro c65), if_pos c174, if_neg (not_not_intro c175), if_neg (not_not_intro c176), if_neg (not_not_intro c209), if_pos c242, if_neg (not_not_intro c243), if_pos c251, if_neg (not_not_intro c252), if_neg (not_not_intro c253), if_neg (not_not_intro c254), va_up_up], rfl⟩
                · refine r_iload rfl dX12_word_120 rfl ?_
                  refine r_bipush (v := 111) rfl dX12_word_122 (by decide) ?_
                  refine r_icmp_ne (tgt := 140) rfl rfl dX12_word_124 (fun c259 => ?_) (fun c259 => ?_)
                  · refine r_iload_n rfl dX12_word_140 rfl ?_
                    refine r_iconst (v := 3) rfl dX12_word_141 (by decide) ?_
                    refine r_icmp_ne (tgt := 169) rfl rfl dX12_word_142 (fun c => absurd c (by first | exact c175 | exact fun z => z c175)) (fun _ => ?_)
                    refine r_iload_n rfl dX12_word_145 rfl ?_
                    refine r_bipush (v := 99) rfl dX12_word_146 (by decide) ?_
                    refine r_icmp_ne (tgt := 169) rfl rfl dX12_word_148 (fun c260 => ?_) (fun c260 => ?_)
                    · subst e60
                      subst e56
                      subst e52
                      subst eh62
                      exact r_ret dX12_word_169 (rt_v rfl) ⟨rfl, by simp only [mwK, mwV, if_neg (not_not_intro c65), if_pos c174, if_neg (not_not_intro c175), if_neg (not_not_intro c176), if_neg (not_not_intro c209), if_pos c242, if_neg (not_not_intro c243), if_neg (not_not_intro c251), if_pos c259, if_pos c260, va_up_up], rfl⟩
                    · refine r_iload_n rfl dX12_word_151 rfl ?_
                      refine r_bipush (v := 117) rfl dX12_word_152 (by decide) ?_
                      refine r_icmp_ne (tgt := 169) rfl rfl dX12_word_154 (fun c261 => ?_) (fun c261 => ?_)
                      · subst e60
                        subst e56
                        subst e52
                        subst eh62
                        exact r_ret dX12_word_169 (rt_v rfl) ⟨rfl, by simp only [mwK, mwV, if_neg (not_not_intro c65), if_pos c174, if_neg (not_not_intro c175), if_neg (not_not_intro c176), if_neg (not_not_intro c209), if_pos c242, if_neg (not_not_intro c243), if_neg (not_not_intro c251), if_pos c259, if_neg (not_not_intro c260), if_pos c261, va_up_up], rfl⟩
                      · refine r_iload rfl dX12_word_157 rfl ?_
                        refine r_bipush (v := 116) rfl dX12_word_159 (by decide) ?_
                        refine r_icmp_ne (tgt := 169) rfl rfl dX12_word_161 (fun c262 => ?_) (fun c262 => ?_)
                        · subst e60
                          subst e56
                          subst e52
                          subst eh62
                          exact r_ret dX12_word_169 (rt_v rfl) ⟨rfl, by simp only [mwK, mwV, if_neg (not_not_intro c65), if_pos c174, if_neg (not_not_intro c175), if_neg (not_not_intro c176), if_neg (not_not_intro c209), if_pos c242, if_neg (not_not_intro c243), if_neg (not_not_intro c251), if_pos c259, if_neg (not_not_intro c260), if_neg (not_not_intro c261), if_pos c262, va_up_up], rfl⟩
                        · refine r_aload_n rfl dX12_word_164 rfl ?_
                          refine r_iconst (v := 3) rfl dX12_word_165 (by decide) ?_
                          refine r_putv 5 (fs' := [.int th, .long tr, .ref 421, .int (nI n), .int nx, .int 3, .int (nI q), .int va, .int fa, .int cl, .int md, .int ss, .int wg, .ref 422, .ref 423, .ref 424, .ref 425, .ref 426, .ref 427, .ref 428, .ref 429, .ref 430, .ref 431, .ref 432, .ref 433]) rfl dX12_word_166 (show 2 ≤ 420 ∧ 420 < 434 by decide) f63 (fp_X12_76 rfl _) (Nat.le_of_ble_eq_true rfl) rfl (fun h263 eh264 => ?_)
                          have f265 : h263 420 = .inr (12, [.int th, .long tr, .ref 421, .int (nI n), .int nx, .int 3, .int (nI q), .int va, .int fa, .int cl, .int md, .int ss, .int wg, .ref 422, .ref 423, .ref 424, .ref 425, .ref 426, .ref 427, .ref 428, .ref 429, .ref 430, .ref 431, .ref 432, .ref 433]) := by rw [eh264]; exact va_up_self _ _ _
                          have f266 : h263 421 = .inl (0, 300, .inl g) := by rw [eh264, va_up_ne _ _ (fun q => by rw [q, f63] at f64; cases f64)]; exact f64
                          subst e60
                          subst e56
                          subst e52
                          subst eh264
                          subst eh62
                          exact r_ret dX12_word_169 (rt_v rfl) ⟨rfl, by simp only [mwK, mwV, if_neg (not_not_intro c65), if_pos c174, if_neg (not_not_intro c175), if_neg (not_not_intro c176), if_neg (not_not_intro c209), if_pos c242, if_neg (not_not_intro c243), if_neg (not_not_intro c251), if_pos c259, if_neg (not_not_intro c260), if_neg (not_not_intro c261), if_neg (not_not_intro c262), va_up_up], rfl⟩
                  · refine r_aload_n rfl dX12_word_127 rfl ?_
                    refine r_iconst (v := 2) rfl dX12_word_128 (by decide) ?_
                    refine r_putv 5 (fs' := [.int th, .long tr, .ref 421, .int (nI n), .int nx, .int 2, .int (nI q), .int va, .int fa, .int cl, .int md, .int ss, .int wg, .ref 422, .ref 423, .ref 424, .ref 425, .ref 426, .ref 427, .ref 428, .ref 429, .ref 430, .ref 431, .ref 432, .ref 433]) rfl dX12_word_129 (show 2 ≤ 420 ∧ 420 < 434 by decide) f63 (fp_X12_76 rfl _) (Nat.le_of_ble_eq_true rfl) rfl (fun h267 eh268 => ?_)
                    have f269 : h267 420 = .inr (12, [.int th, .long tr, .ref 421, .int (nI n), .int nx, .int 2, .int (nI q), .int va, .int fa, .int cl, .int md, .int ss, .int wg, .ref 422, .ref 423, .ref 424, .ref 425, .ref 426, .ref 427, .ref 428, .ref 429, .ref 430, .ref 431, .ref 432, .ref 433]) := by rw [eh268]; exact va_up_self _ _ _
                    have f270 : h267 421 = .inl (0, 300, .inl g) := by rw [eh268, va_up_ne _ _ (fun q => by rw [q, f63] at f64; cases f64)]; exact f64
                    refine r_aload_n rfl dX12_word_132 rfl ?_
                    refine r_iconst (v := 2) rfl dX12_word_133 (by decide) ?_
                    refine r_putv 7 (fs' := [.int th, .long tr, .ref 421, .int (nI n), .int nx, .int 2, .int (nI q), .int 2, .int fa, .int cl, .int md, .int ss, .int wg, .ref 422, .ref 423, .ref 424, .ref 425, .ref 426, .ref 427, .ref 428, .ref 429, .ref 430, .ref 431, .ref 432, .ref 433]) rfl dX12_word_134 (show 2 ≤ 420 ∧ 420 < 434 by decide) f269 (fp_X12_79 rfl _) (Nat.le_of_ble_eq_true rfl) rfl (fun h271 eh272 => ?_)
                    have f273 : h271 420 = .inr (12, [.int th, .long tr, .ref 421, .int (nI n), .int nx, .int 2, .int (nI q), .int 2, .int fa, .int cl, .int md, .int ss, .int wg, .ref 422, .ref 423, .ref 424, .ref 425, .ref 426, .ref 427, .ref 428, .ref 429, .ref 430, .ref 431, .ref 432, .ref 433]) := by rw [eh272]; exact va_up_self _ _ _
                    have f274 : h271 421 = .inl (0, 300, .inl g) := by rw [eh272, va_up_ne _ _ (fun q => by rw [q, f269] at f270; cases f270)]; exact f270
                    refine r_goto (pc' := 169) rfl dX12_word_137 ?_
                    subst e60
                    subst e56
                    subst e52
                    subst eh272
                    subst eh268
                    subst eh62
                    exact r_ret dX12_word_169 (rt_v rfl) ⟨rfl, by simp only [mwK, mwV, if_neg (not_not_intro c65), if_pos c174, if_neg (not_not_intro c175), if_neg (not_not_intro c176), if_neg (not_not_intro c209), if_pos c242, if_neg (not_not_intro c243), if_neg (not_not_intro c251), if_neg (not_not_intro c259), va_up_up], rfl⟩
            · refine r_aload_n rfl dX12_word_90 rfl ?_
              refine r_iconst (v := 2) rfl dX12_word_91 (by decide) ?_
              refine r_putv 5 (fs' := [.int th, .long tr, .ref 421, .int (nI n), .int nx, .int 2, .int (nI q), .int va, .int fa, .int cl, .int md, .int ss, .int wg, .ref 422, .ref 423, .ref 424, .ref 425, .ref 426, .ref 427, .ref 428, .ref 429, .ref 430, .ref 431, .ref 432, .ref 433]) rfl dX12_word_92 (show 2 ≤ 420 ∧ 420 < 434 by decide) f63 (fp_X12_76 rfl _) (Nat.le_of_ble_eq_true rfl) rfl (fun h275 eh276 => ?_)
              have f277 : h275 420 = .inr (12, [.int th, .long tr, .ref 421, .int (nI n), .int nx, .int 2, .int (nI q), .int va, .int fa, .int cl, .int md, .int ss, .int wg, .ref 422, .ref 423, .ref 424, .ref 425, .ref 426, .ref 427, .ref 428, .ref 429, .ref 430, .ref 431, .ref 432, .ref 433]) := by rw [eh276]; exact va_up_self _ _ _
              have f278 : h275 421 = .inl (0, 300, .inl g) := by rw [eh276, va_up_ne _ _ (fun q => by rw [q, f63] at f64; cases f64)]; exact f64
              refine r_aload_n rfl dX12_word_95 rfl ?_
              refine r_iconst (v := 1) rfl dX12_word_96 (by decide) ?_
              refine r_putv 7 (fs' := [.int th, .long tr, .ref 421, .int (nI n), .int nx, .int 2, .int (nI q), .int 1, .int fa, .int cl, .int md, .int ss, .int wg, .ref 422, .ref 423, .ref 424, .ref 425, .ref 426, .ref 427, .ref 428, .ref 429, .ref 430, .ref 431, .ref 432, .ref 433]) rfl dX12_word_97 (show 2 ≤ 420 ∧ 420 < 434 by decide) f277 (fp_X12_79 rfl _) (Nat.le_of_ble_eq_true rfl) rfl (fun h279 eh280 => ?_)
              have f281 : h279 420 = .inr (12, [.int th, .long tr, .ref 421, .int (nI n), .int nx, .int 2, .int (nI q), .int 1, .int fa, .int cl, .int md, .int ss, .int wg, .ref 422, .ref 423, .ref 424, .ref 425, .ref 426, .ref 427, .ref 428, .ref 429, .ref 430, .ref 431, .ref 432, .ref 433]) := by rw [eh280]; exact va_up_self _ _ _
              have f282 : h279 421 = .inl (0, 300, .inl g) := by rw [eh280, va_up_ne _ _ (fun q => by rw [q, f277] at f278; cases f278)]; exact f278
              refine r_goto (pc' := 169) rfl dX12_word_100 ?_
              subst e60
              subst e56
              subst e52
              subst eh280
              subst eh276
              subst eh62
              exact r_ret dX12_word_169 (rt_v rfl) ⟨rfl, by simp only [mwK, mwV, if_neg (not_not_intro c65), if_pos c174, if_neg (not_not_intro c175), if_neg (not_not_intro c176), if_neg (not_not_intro c209), if_neg (not_not_intro c242), va_up_up], rfl⟩
    · refine r_aload_n rfl dX12_word_50 rfl ?_
      refine r_iconst (v := 1) rfl dX12_word_51 (by decide) ?_
      refine r_putv 5 (fs' := [.int th, .long tr, .ref 421, .int (nI n), .int nx, .int 1, .int (nI q), .int va, .int fa, .int cl, .int md, .int ss, .int wg, .ref 422, .ref 423, .ref 424, .ref 425, .ref 426, .ref 427, .ref 428, .ref 429, .ref 430, .ref 431, .ref 432, .ref 433]) rfl dX12_word_52 (show 2 ≤ 420 ∧ 420 < 434 by decide) f63 (fp_X12_76 rfl _) (Nat.le_of_ble_eq_true rfl) rfl (fun h283 eh284 => ?_)
      have f285 : h283 420 = .inr (12, [.int th, .long tr, .ref 421, .int (nI n), .int nx, .int 1, .int (nI q), .int va, .int fa, .int cl, .int md, .int ss, .int wg, .ref 422, .ref 423, .ref 424, .ref 425, .ref 426, .ref 427, .ref 428, .ref 429, .ref 430, .ref 431, .ref 432, .ref 433]) := by rw [eh284]; exact va_up_self _ _ _
      have f286 : h283 421 = .inl (0, 300, .inl g) := by rw [eh284, va_up_ne _ _ (fun q => by rw [q, f63] at f64; cases f64)]; exact f64
      refine r_aload_n rfl dX12_word_55 rfl ?_
      refine r_iload_n rfl dX12_word_56 rfl ?_
      refine r_bipush (v := 97) rfl dX12_word_57 (by decide) ?_
      refine r_isub rfl dX12_word_59 ?_
      refine r_topi (fun x287 e288 => ?_)
      refine r_putv 7 (fs' := [.int th, .long tr, .ref 421, .int (nI n), .int nx, .int 1, .int (nI q), .int x287, .int fa, .int cl, .int md, .int ss, .int wg, .ref 422, .ref 423, .ref 424, .ref 425, .ref 426, .ref 427, .ref 428, .ref 429, .ref 430, .ref 431, .ref 432, .ref 433]) rfl dX12_word_60 (show 2 ≤ 420 ∧ 420 < 434 by decide) f285 (fp_X12_79 rfl _) (Nat.le_of_ble_eq_true rfl) rfl (fun h289 eh290 => ?_)
      have f291 : h289 420 = .inr (12, [.int th, .long tr, .ref 421, .int (nI n), .int nx, .int 1, .int (nI q), .int x287, .int fa, .int cl, .int md, .int ss, .int wg, .ref 422, .ref 423, .ref 424, .ref 425, .ref 426, .ref 427, .ref 428, .ref 429, .ref 430, .ref 431, .ref 432, .ref 433]) := by rw [eh290]; exact va_up_self _ _ _
      have f292 : h289 421 = .inl (0, 300, .inl g) := by rw [eh290, va_up_ne _ _ (fun q => by rw [q, f285] at f286; cases f286)]; exact f286
      refine r_goto (pc' := 169) rfl dX12_word_63 ?_
      subst e288
      subst e60
      subst e56
      subst e52
      subst eh290
      subst eh284
      subst eh62
      exact r_ret dX12_word_169 (rt_v rfl) ⟨rfl, by simp only [mwK, mwV, if_neg (not_not_intro c65), if_neg c174, va_up_up], rfl⟩
