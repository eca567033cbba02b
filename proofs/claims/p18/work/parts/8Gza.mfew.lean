/-- whether two rows of words share nothing in their first k words -/
def isL (A B : Nat → Int64) : Nat → Int32
  | 0 => 1
  | k + 1 => if isL A B k = 0 then 0 else if A k &&& B k = 0 then 1 else 0
theorem isL_s (A B : Nat → Int64) (k : Nat) : isL A B (k + 1) = if isL A B k = 0 then 0 else if A k &&& B k = 0 then 1 else 0 := rfl
theorem isL_n (A B : Nat → Int64) : ∀ n, (¬ isL A B n = 0) ↔ ∀ p, p < n → A p &&& B p = 0
  | 0 => ⟨fun _ p hp => absurd hp (by omega), fun _ => by show ¬ (1 : Int32) = 0; decide⟩
  | n + 1 => by
    have ih := isL_n A B n
    rw [isL_s]
    by_cases h : isL A B n = 0
    · rw [if_pos h]
      exact ⟨fun z => absurd rfl z, fun z => absurd h (ih.mpr (fun p hp => z p (by omega)))⟩
    · rw [if_neg h]
      have i2 := ih.mp h
      by_cases h2 : A n &&& B n = 0
      · rw [if_pos h2]
        refine ⟨fun _ p hp => ?_, fun _ => by decide⟩
        by_cases e : p = n
        · rw [e]; exact h2
        · exact i2 p (by omega)
      · rw [if_neg h2]
        exact ⟨fun z => absurd rfl z, fun z => absurd (z n (by omega)) h2⟩
theorem isL_ap {G : Nat → Int32} {c k : Nat} {A B : Nat → Int64} (hA : ∀ p, p < 4 → A p = wO (spP (onP G 1 c) k) p) (hB : ∀ p, p < 4 → B p = wO (onP G 2 c) p) : (¬ isL A B 4 = 0) ↔ apB G c k = true := by
  rw [isL_n, apB_iff]
  exact ⟨fun h p hp => by rw [← hA p hp, ← hB p hp]; exact h p hp, fun h p hp => by rw [hA p hp, hB p hp]; exact h p hp⟩
theorem bc_on {b : Int32} (hb : b = -9 ∨ ∃ j : Nat, j < 256 ∧ b = nI j) (h : ¬ b = -9) : bc32 b = onM b 16 := by
  obtain ⟨j, hj, rfl⟩ := hb.resolve_left h
  rw [bc8 ⟨j, hj⟩, on8 ⟨j, hj⟩]
theorem pc9 : ∀ k : Fin 256, ¬ (9 : Int32) ≤ nI (pc8 k.1) := by decide +kernel
theorem sz_9 {b : Int32} {k : Nat} (hk : k < 256) (h : b = -9) : ¬ szF b ≤ bc32 (nI k) := by
  rw [szF, if_pos h, bc8 ⟨k, hk⟩]
  exact pc9 ⟨k, hk⟩
theorem sz_on {b : Int32} {k : Nat} (hk : k < 256) (hb : b = -9 ∨ ∃ j : Nat, j < 256 ∧ b = nI j) (h : ¬ b = -9) : szF b ≤ bc32 (nI k) ↔ onM b 16 ≤ onM (nI k) 16 := by
  rw [szF, if_neg h, bc_on hb h, bc_on (b := nI k) (Or.inr ⟨k, hk, rfl⟩) (nI_nm9 (by omega))]
set_option maxRecDepth 20000 in
set_option maxHeartbeats 1000000 in
theorem z_fi_z {xs : Nat → Int32} {L d : Nat} {h : ev_H} {h0 : ev_H} {tr : Int64} {ty nx tk pl va fa ss wg x : Int32} {c m : Nat} {G : Nat → Int32} {O1 T1 : Nat → Int64} {sh b : Int32} {w : Nat} {Z : Nat → Int64} {Q : ev_Q} {k : Nat} (hS : SH h) (hw : w < 256) (kx : ∀ h' : ev_H, SH h' → KM [] h0 h' → h' 420 = .inr (12, [.int 0, .long tr, .ref 421, .int ty, .int nx, .int tk, .int pl, .int va, .int fa, .int (nI c), .int (nI m), .int ss, .int wg, .ref 422, .ref 423, .ref 424, .ref 425, .ref 426, .ref 427, .ref 428, .ref 429, .ref 430, .ref 431, .ref 432, .ref 433]) → h' 422 = .inl (0, 240, .inl G) → h' 427 = .inl (1, 4, .inr (.inl O1)) → h' 428 = .inl (1, 4, .inr (.inl T1)) → h' 432 = .inl (1, 4, .inr (.inl Z)) → EV xs L (d + 2) 0 0 M_X12_fewest 434 h' 125 [some (.ref 420), some (.int x), some (.int sh), some (.int b), some (.int (nI w)), some (.int (isL Z T1 (4))), some (.int (nI 4))] [] Q) (hF : KM [] h0 h) (h5 : h 420 = .inr (12, [.int 0, .long tr, .ref 421, .int ty, .int nx, .int tk, .int pl, .int va, .int fa, .int (nI c), .int (nI m), .int ss, .int wg, .ref 422, .ref 423, .ref 424, .ref 425, .ref 426, .ref 427, .ref 428, .ref 429, .ref 430, .ref 431, .ref 432, .ref 433])) (h22 : h 422 = .inl (0, 240, .inl G)) (h27 : h 427 = .inl (1, 4, .inr (.inl O1))) (h28 : h 428 = .inl (1, 4, .inr (.inl T1))) (h32 : h 432 = .inl (1, 4, .inr (.inl Z))) (hk : k = 4) : EV xs L (d + 2) 0 0 M_X12_fewest 434 h 81 [some (.ref 420), some (.int x), some (.int sh), some (.int b), some (.int (nI w)), some (.int (isL Z T1 (k))), some (.int (nI k))] [] Q := by
  refine r_iload rfl dX12_fewest_81 rfl ?_
  refine r_iconst (v := 4) rfl dX12_fewest_83 (by decide) ?_
  refine r_icmp_ge (tgt := 125) rfl rfl dX12_fewest_84 (fun _ => ?_) (fun zc => absurd (show nI (4) ≤ nI k from nI_le (a := 4) (b := k) (by omega) (by omega)) zc)
  subst hk
  exact kx h hS hF h5 h22 h27 h28 h32
set_option maxRecDepth 20000 in
set_option maxHeartbeats 1000000 in
theorem z_fi_s {xs : Nat → Int32} {L d : Nat} {h : ev_H} {h0 : ev_H} {tr : Int64} {ty nx tk pl va fa ss wg x : Int32} {c m : Nat} {G : Nat → Int32} {O1 T1 : Nat → Int64} {sh b : Int32} {w : Nat} {Z : Nat → Int64} {Q : ev_Q} {k : Nat} (hS : SH h) (hw : w < 256) (kx : ∀ h' : ev_H, SH h' → KM [] h0 h' → h' 420 = .inr (12, [.int 0, .long tr, .ref 421, .int ty, .int nx, .int tk, .int pl, .int va, .int fa, .int (nI c), .int (nI m), .int ss, .int wg, .ref 422, .ref 423, .ref 424, .ref 425, .ref 426, .ref 427, .ref 428, .ref 429, .ref 430, .ref 431, .ref 432, .ref 433]) → h' 422 = .inl (0, 240, .inl G) → h' 427 = .inl (1, 4, .inr (.inl O1)) → h' 428 = .inl (1, 4, .inr (.inl T1)) → h' 432 = .inl (1, 4, .inr (.inl Z)) → EV xs L (d + 2) 0 0 M_X12_fewest 434 h' 125 [some (.ref 420), some (.int x), some (.int sh), some (.int b), some (.int (nI w)), some (.int (isL Z T1 (4))), some (.int (nI 4))] [] Q) (hF : KM [] h0 h) (h5 : h 420 = .inr (12, [.int 0, .long tr, .ref 421, .int ty, .int nx, .int tk, .int pl, .int va, .int fa, .int (nI c), .int (nI m), .int ss, .int wg, .ref 422, .ref 423, .ref 424, .ref 425, .ref 426, .ref 427, .ref 428, .ref 429, .ref 430, .ref 431, .ref 432, .ref 433])) (h22 : h 422 = .inl (0, 240, .inl G)) (h27 : h 427 = .inl (1, 4, .inr (.inl O1))) (h28 : h 428 = .inl (1, 4, .inr (.inl T1))) (h32 : h 432 = .inl (1, 4, .inr (.inl Z))) (hk : k < 4) (ih : ∀ (h' : ev_H), SH h' → KM [] h0 h' → h' 420 = .inr (12, [.int 0, .long tr, .ref 421, .int ty, .int nx, .int tk, .int pl, .int va, .int fa, .int (nI c), .int (nI m), .int ss, .int wg, .ref 422, .ref 423, .ref 424, .ref 425, .ref 426, .ref 427, .ref 428, .ref 429, .ref 430, .ref 431, .ref 432, .ref 433]) → h' 422 = .inl (0, 240, .inl G) → h' 427 = .inl (1, 4, .inr (.inl O1)) → h' 428 = .inl (1, 4, .inr (.inl T1)) → h' 432 = .inl (1, 4, .inr (.inl Z)) → EV xs L (d + 2) 0 0 M_X12_fewest 434 h' 81 [some (.ref 420), some (.int x), some (.int sh), some (.int b), some (.int (nI w)), some (.int (isL Z T1 (k + 1))), some (.int (nI (k + 1)))] [] Q) : EV xs L (d + 2) 0 0 M_X12_fewest 434 h 81 [some (.ref 420), some (.int x), some (.int sh), some (.int b), some (.int (nI w)), some (.int (isL Z T1 (k))), some (.int (nI k))] [] Q := by
  refine r_iload rfl dX12_fewest_81 rfl ?_
  refine r_iconst (v := 4) rfl dX12_fewest_83 (by decide) ?_
  refine r_icmp_ge (tgt := 125) rfl rfl dX12_fewest_84 (fun zc => absurd zc (show ¬ nI (4) ≤ nI k from nI_ge (a := k) (b := 4) (by omega) (by omega))) (fun _ => ?_)
  refine r_iload rfl dX12_fewest_87 rfl ?_
  refine r_if_eq (tgt := 116) rfl rfl dX12_fewest_89 (fun c51 => ?_) (fun c51 => ?_)
  · refine r_iconst (v := 0) rfl dX12_fewest_116 (by decide) ?_
    refine r_istore (ls' := [some (.ref 420), some (.int x), some (.int sh), some (.int b), some (.int (nI w)), some (.int 0), some (.int (nI k))]) rfl dX12_fewest_117 (Nat.le_of_ble_eq_true rfl) rfl ?_
    refine r_iinc (y := nI (k + 1)) (ls' := [some (.ref 420), some (.int x), some (.int sh), some (.int b), some (.int (nI w)), some (.int 0), some (.int (nI (k + 1)))]) rfl dX12_fewest_119 rfl (nI_1 k) (Nat.le_of_ble_eq_true rfl) rfl ?_
    refine r_goto (pc' := 81) rfl dX12_fewest_122 ?_
    rw [isL_s, if_pos c51] at ih
    exact ih h hS hF h5 h22 h27 h28 h32
  · refine r_aload_n rfl dX12_fewest_92 rfl ?_
    refine r_getv 23 rfl dX12_fewest_93 (show 2 ≤ 420 ∧ 420 < 434 by decide) h5 fl_X12_48 rfl ?_
    refine r_iload rfl dX12_fewest_96 rfl ?_
    refine r_laldv (jn := k) (v := Z k) rfl dX12_fewest_98 (show 2 ≤ 432 ∧ 432 < 434 by decide) h32 (vp_in_nI (n := k) (by omega) (by decide)) (nI_clamp (n := k) (by omega)) rfl ?_
    refine r_aload_n rfl dX12_fewest_99 rfl ?_
    refine r_getv 19 rfl dX12_fewest_100 (show 2 ≤ 420 ∧ 420 < 434 by decide) h5 fl_X12_36 rfl ?_
    refine r_iload rfl dX12_fewest_103 rfl ?_
    refine r_laldv (jn := k) (v := T1 k) rfl dX12_fewest_105 (show 2 ≤ 428 ∧ 428 < 434 by decide) h28 (vp_in_nI (n := k) (by omega) (by decide)) (nI_clamp (n := k) (by omega)) rfl ?_
    refine r_land rfl dX12_fewest_106 ?_
    refine r_lconst (v := 0) rfl dX12_fewest_107 (by decide) ?_
    refine r_lcmp rfl dX12_fewest_108 ?_
    refine r_if_ne (tgt := 116) rfl rfl dX12_fewest_109 (fun c52 => ?_) (fun c52 => ?_)
    · refine r_iconst (v := 0) rfl dX12_fewest_116 (by decide) ?_
      refine r_istore (ls' := [some (.ref 420), some (.int x), some (.int sh), some (.int b), some (.int (nI w)), some (.int 0), some (.int (nI k))]) rfl dX12_fewest_117 (Nat.le_of_ble_eq_true rfl) rfl ?_
      refine r_iinc (y := nI (k + 1)) (ls' := [some (.ref 420), some (.int x), some (.int sh), some (.int b), some (.int (nI w)), some (.int 0), some (.int (nI (k + 1)))]) rfl dX12_fewest_119 rfl (nI_1 k) (Nat.le_of_ble_eq_true rfl) rfl ?_
      refine r_goto (pc' := 81) rfl dX12_fewest_122 ?_
      rw [isL_s, if_neg c51, if_neg (fun z => c52 (lgc0.mpr z))] at ih
      exact ih h hS hF h5 h22 h27 h28 h32
    · refine r_iconst (v := 1) rfl dX12_fewest_112 (by decide) ?_
      refine r_goto (pc' := 117) rfl dX12_fewest_113 ?_
      refine r_istore (ls' := [some (.ref 420), some (.int x), some (.int sh), some (.int b), some (.int (nI w)), some (.int 1), some (.int (nI k))]) rfl dX12_fewest_117 (Nat.le_of_ble_eq_true rfl) rfl ?_
      refine r_iinc (y := nI (k + 1)) (ls' := [some (.ref 420), some (.int x), some (.int sh), some (.int b), some (.int (nI w)), some (.int 1), some (.int (nI (k + 1)))]) rfl dX12_fewest_119 rfl (nI_1 k) (Nat.le_of_ble_eq_true rfl) rfl ?_
      refine r_goto (pc' := 81) rfl dX12_fewest_122 ?_
      rw [isL_s, if_neg c51, if_pos (lgc0.mp c52)] at ih
      exact ih h hS hF h5 h22 h27 h28 h32
theorem z_fi {xs : Nat → Int32} {L d : Nat} {h0 : ev_H} {tr : Int64} {ty nx tk pl va fa ss wg x : Int32} {c m : Nat} {G : Nat → Int32} {O1 T1 : Nat → Int64} {sh b : Int32} {w : Nat} {Z : Nat → Int64} {Q : ev_Q} (hw : w < 256) (kx : ∀ h' : ev_H, SH h' → KM [] h0 h' → h' 420 = .inr (12, [.int 0, .long tr, .ref 421, .int ty, .int nx, .int tk, .int pl, .int va, .int fa, .int (nI c), .int (nI m), .int ss, .int wg, .ref 422, .ref 423, .ref 424, .ref 425, .ref 426, .ref 427, .ref 428, .ref 429, .ref 430, .ref 431, .ref 432, .ref 433]) → h' 422 = .inl (0, 240, .inl G) → h' 427 = .inl (1, 4, .inr (.inl O1)) → h' 428 = .inl (1, 4, .inr (.inl T1)) → h' 432 = .inl (1, 4, .inr (.inl Z)) → EV xs L (d + 2) 0 0 M_X12_fewest 434 h' 125 [some (.ref 420), some (.int x), some (.int sh), some (.int b), some (.int (nI w)), some (.int (isL Z T1 (4))), some (.int (nI 4))] [] Q) : ∀ (nn k : Nat) (h : ev_H), k + nn = 4 → SH h → KM [] h0 h → h 420 = .inr (12, [.int 0, .long tr, .ref 421, .int ty, .int nx, .int tk, .int pl, .int va, .int fa, .int (nI c), .int (nI m), .int ss, .int wg, .ref 422, .ref 423, .ref 424, .ref 425, .ref 426, .ref 427, .ref 428, .ref 429, .ref 430, .ref 431, .ref 432, .ref 433]) → h 422 = .inl (0, 240, .inl G) → h 427 = .inl (1, 4, .inr (.inl O1)) → h 428 = .inl (1, 4, .inr (.inl T1)) → h 432 = .inl (1, 4, .inr (.inl Z)) → EV xs L (d + 2) 0 0 M_X12_fewest 434 h 81 [some (.ref 420), some (.int x), some (.int sh), some (.int b), some (.int (nI w)), some (.int (isL Z T1 (k))), some (.int (nI k))] [] Q := by
  intro nn
  induction nn with
  | zero => intro k h hk hS hF h5 h22 h27 h28 h32; exact z_fi_z hS hw kx hF h5 h22 h27 h28 h32 (by omega)
  | succ nn ih => intro k h hk hS hF h5 h22 h27 h28 h32; exact z_fi_s hS hw kx hF h5 h22 h27 h28 h32 (by omega) (fun h' q0 q1 q2 q3 q4 q5 q6 => ih (k + 1) h' (by omega) q0 q1 q2 q3 q4 q5 q6)
set_option maxRecDepth 20000 in
set_option maxHeartbeats 1000000 in
theorem z_fo_z {xs : Nat → Int32} {L d : Nat} {h : ev_H} {h0 : ev_H} {tr : Int64} {ty nx tk pl va fa ss wg x : Int32} {c m : Nat} {G : Nat → Int32} {O1 T1 : Nat → Int64} {k : Nat} {u5 : Option Value} {u6 : Option Value} (hS : SH h) (hx : ¬ inR x 0 1 = 0) (hA : ∀ p, p < 4 → O1 p = wO (onP G 1 c) p) (hB : ∀ p, p < 4 → T1 p = wO (onP G 2 c) p) (hF : KM [420, 432] h0 h) (h5 : h 420 = .inr (12, [.int 0, .long tr, .ref 421, .int ty, .int nx, .int tk, .int pl, .int va, .int fa, .int (nI c), .int (nI m), .int ss, .int wg, .ref 422, .ref 423, .ref 424, .ref 425, .ref 426, .ref 427, .ref 428, .ref 429, .ref 430, .ref 431, .ref 432, .ref 433])) (h22 : h 422 = .inl (0, 240, .inl G)) (h27 : h 427 = .inl (1, 4, .inr (.inl O1))) (h28 : h 428 = .inl (1, 4, .inr (.inl T1))) (hk : k = 256) : EV xs L (d + 2) 0 0 M_X12_fewest 434 h 27 [some (.ref 420), some (.int x), some (.int (shM G c)), some (.int (fwB G c (shM G c) (k))), some (.int (nI k)), u5, u6] [] (fun sz' h' r => sz' = 434 ∧ SH h' ∧ KM [420, 432] h0 h' ∧ r = [.int (fwR G c (shM G c) x)] ∧ h' 420 = c420 0 tr ty nx tk pl va fa (nI c) (nI m) ss wg) := by
  refine r_iload rfl dX12_fewest_27 rfl ?_
  refine r_sipush (v := 256) rfl dX12_fewest_29 (by decide) ?_
  refine r_icmp_ge (tgt := 143) rfl rfl dX12_fewest_32 (fun _ => ?_) (fun zc => absurd (show nI (256) ≤ nI k from nI_le (a := 256) (b := k) (by omega) (by omega)) zc)
  refine r_iload_n rfl dX12_fewest_143 rfl ?_
  refine r_bipush (v := (-9)) rfl dX12_fewest_144 (by decide) ?_
  refine r_icmp_eq (tgt := 154) rfl rfl dX12_fewest_146 (fun c51 => ?_) (fun c51 => ?_)
  · refine r_iload_n rfl dX12_fewest_154 rfl ?_
    refine r_goto (pc' := 162) rfl dX12_fewest_155 ?_
    subst hk
    exact r_ret dX12_fewest_162 (rt_i rfl) ⟨rfl, hS, hF, (by rw [fwR, if_neg hx, sOS, if_pos c51] <;> rfl), h5⟩
  · refine r_iload_n rfl dX12_fewest_149 rfl ?_
    refine r_iconst (v := 1) rfl dX12_fewest_150 (by decide) ?_
    refine r_icmp_ne (tgt := 158) rfl rfl dX12_fewest_151 (fun c52 => ?_) (fun c52 => ?_)
    · refine r_iload_n rfl dX12_fewest_158 rfl ?_
      refine cl_X12_177 rfl rfl dX12_fewest_159 (Nat.le_of_ble_eq_true rfl) (z_X12_ones hS) ?_
      rintro _ h53 _ ⟨rfl, e54, rfl⟩
      replace e54 := e54.symm
      subst e54
      subst hk
      exact r_ret dX12_fewest_162 (rt_i rfl) ⟨rfl, hS, hF, (by rw [fwR, if_neg hx, sOS, if_neg c51, if_pos c52, bc_on (fwB_y G c (shM G c) 256 (by omega)) c51] <;> rfl), h5⟩
    · refine r_iload_n rfl dX12_fewest_154 rfl ?_
      refine r_goto (pc' := 162) rfl dX12_fewest_155 ?_
      subst hk
      exact r_ret dX12_fewest_162 (rt_i rfl) ⟨rfl, hS, hF, (by rw [fwR, if_neg hx, sOS, if_neg c51, if_neg (fun z => z c52)] <;> rfl), h5⟩
set_option maxRecDepth 20000 in
set_option maxHeartbeats 1000000 in
theorem z_fo_s {xs : Nat → Int32} {L d : Nat} {h : ev_H} {h0 : ev_H} {tr : Int64} {ty nx tk pl va fa ss wg x : Int32} {c m : Nat} {G : Nat → Int32} {O1 T1 : Nat → Int64} {k : Nat} {u5 : Option Value} {u6 : Option Value} (hS : SH h) (hx : ¬ inR x 0 1 = 0) (hA : ∀ p, p < 4 → O1 p = wO (onP G 1 c) p) (hB : ∀ p, p < 4 → T1 p = wO (onP G 2 c) p) (hF : KM [420, 432] h0 h) (h5 : h 420 = .inr (12, [.int 0, .long tr, .ref 421, .int ty, .int nx, .int tk, .int pl, .int va, .int fa, .int (nI c), .int (nI m), .int ss, .int wg, .ref 422, .ref 423, .ref 424, .ref 425, .ref 426, .ref 427, .ref 428, .ref 429, .ref 430, .ref 431, .ref 432, .ref 433])) (h22 : h 422 = .inl (0, 240, .inl G)) (h27 : h 427 = .inl (1, 4, .inr (.inl O1))) (h28 : h 428 = .inl (1, 4, .inr (.inl T1))) (hk : k < 256) (ih : ∀ (h' : ev_H) (u5' : Option Value) (u6' : Option Value), SH h' → KM [420, 432] h0 h' → h' 420 = .inr (12, [.int 0, .long tr, .ref 421, .int ty, .int nx, .int tk, .int pl, .int va, .int fa, .int (nI c), .int (nI m), .int ss, .int wg, .ref 422, .ref 423, .ref 424, .ref 425, .ref 426, .ref 427, .ref 428, .ref 429, .ref 430, .ref 431, .ref 432, .ref 433]) → h' 422 = .inl (0, 240, .inl G) → h' 427 = .inl (1, 4, .inr (.inl O1)) → h' 428 = .inl (1, 4, .inr (.inl T1)) → EV xs L (d + 2) 0 0 M_X12_fewest 434 h' 27 [some (.ref 420), some (.int x), some (.int (shM G c)), some (.int (fwB G c (shM G c) (k + 1))), some (.int (nI (k + 1))), u5', u6'] [] (fun sz' h' r => sz' = 434 ∧ SH h' ∧ KM [420, 432] h0 h' ∧ r = [.int (fwR G c (shM G c) x)] ∧ h' 420 = c420 0 tr ty nx tk pl va fa (nI c) (nI m) ss wg)) : EV xs L (d + 2) 0 0 M_X12_fewest 434 h 27 [some (.ref 420), some (.int x), some (.int (shM G c)), some (.int (fwB G c (shM G c) (k))), some (.int (nI k)), u5, u6] [] (fun sz' h' r => sz' = 434 ∧ SH h' ∧ KM [420, 432] h0 h' ∧ r = [.int (fwR G c (shM G c) x)] ∧ h' 420 = c420 0 tr ty nx tk pl va fa (nI c) (nI m) ss wg) := by
  refine r_iload rfl dX12_fewest_27 rfl ?_
  refine r_sipush (v := 256) rfl dX12_fewest_29 (by decide) ?_
  refine r_icmp_ge (tgt := 143) rfl rfl dX12_fewest_32 (fun zc => absurd zc (show ¬ nI (256) ≤ nI k from nI_ge (a := k) (b := 256) (by omega) (by omega))) (fun _ => ?_)
  refine r_iload rfl dX12_fewest_35 rfl ?_
  refine r_iload_n rfl dX12_fewest_37 rfl ?_
  refine r_iconst (v := (-1)) rfl dX12_fewest_38 (by decide) ?_
  refine r_ixor rfl dX12_fewest_39 ?_
  refine r_iand rfl dX12_fewest_40 ?_
  refine r_if_ne (tgt := 137) rfl rfl dX12_fewest_41 (fun c51 => ?_) (fun c51 => ?_)
  · refine r_iinc (y := nI (k + 1)) (ls' := [some (.ref 420), some (.int x), some (.int (shM G c)), some (.int (fwB G c (shM G c) (k))), some (.int (nI (k + 1))), u5, u6]) rfl dX12_fewest_137 rfl (nI_1 k) (Nat.le_of_ble_eq_true rfl) rfl ?_
    refine r_goto (pc' := 27) rfl dX12_fewest_140 ?_
    rw [fwB_s G c (shM G c) k, fwS, if_neg c51] at ih
    exact ih h _ _ hS hF h5 h22 h27 h28
  · refine r_iload_n rfl dX12_fewest_44 rfl ?_
    refine r_bipush (v := (-9)) rfl dX12_fewest_45 (by decide) ?_
    refine r_icmp_eq (tgt := 62) rfl rfl dX12_fewest_47 (fun c52 => ?_) (fun c52 => ?_)
    · refine r_aload_n rfl dX12_fewest_62 rfl ?_
      refine r_getv 18 rfl dX12_fewest_63 (show 2 ≤ 420 ∧ 420 < 434 by decide) h5 fl_X12_33 rfl ?_
      refine r_aload_n rfl dX12_fewest_66 rfl ?_
      refine r_getv 23 rfl dX12_fewest_67 (show 2 ≤ 420 ∧ 420 < 434 by decide) h5 fl_X12_48 rfl ?_
      refine r_iload rfl dX12_fewest_70 rfl ?_
      obtain ⟨Z53, f54⟩ := hS.la LA_432
      refine cl_X12_139 rfl rfl dX12_fewest_72 (Nat.le_of_ble_eq_true rfl) (z_X12_spreads (l := k) hS (by decide) (by decide) (by decide) hk hA h27 f54) ?_
      rintro _ h55 _ ⟨rfl, hS56, hk57, f58, rfl⟩
      have hF59 := KM_tr hF (KM_sb (by decide) hk57)
      have f60 : h55 420 = .inr (12, [.int 0, .long tr, .ref 421, .int ty, .int nx, .int tk, .int pl, .int va, .int fa, .int (nI c), .int (nI m), .int ss, .int wg, .ref 422, .ref 423, .ref 424, .ref 425, .ref 426, .ref 427, .ref 428, .ref 429, .ref 430, .ref 431, .ref 432, .ref 433]) := (hk57 420 (by decide)).trans h5
      have f61 : h55 422 = .inl (0, 240, .inl G) := (hk57 422 (by decide)).trans h22
      have f62 : h55 427 = .inl (1, 4, .inr (.inl O1)) := (hk57 427 (by decide)).trans h27
      have f63 : h55 428 = .inl (1, 4, .inr (.inl T1)) := (hk57 428 (by decide)).trans h28
      refine r_iconst (v := 1) rfl dX12_fewest_75 (by decide) ?_
      refine r_istore (ls' := [some (.ref 420), some (.int x), some (.int (shM G c)), some (.int (fwB G c (shM G c) (k))), some (.int (nI k)), some (.int 1), u6]) rfl dX12_fewest_76 (Nat.le_of_ble_eq_true rfl) rfl ?_
      refine r_iconst (v := 0) rfl dX12_fewest_78 (by decide) ?_
      refine r_istore (ls' := [some (.ref 420), some (.int x), some (.int (shM G c)), some (.int (fwB G c (shM G c) (k))), some (.int (nI k)), some (.int 1), some (.int 0)]) rfl dX12_fewest_79 (Nat.le_of_ble_eq_true rfl) rfl ?_
      refine z_fi (w := k) (Z := (hwR Z53 0 (fun w => ksB (onP G 1 c) k 256 (w &&& k)) 256)) (h0 := h55) hk ?_ 4 0 h55 rfl hS56 (KM_rf _) f60 f61 f62 f63 f58
      intro h64 hS65 hF66 f67 f68 f69 f70 f71
      have hF72 := KM_tr hF59 (KM_sb (by decide) hF66)
      refine r_iload rfl dX12_fewest_125 rfl ?_
      refine r_if_eq (tgt := 135) rfl rfl dX12_fewest_127 (fun c73 => ?_) (fun c73 => ?_)
      · refine r_iload_n rfl dX12_fewest_135 rfl ?_
        refine r_topi (fun x74 e75 => ?_)
        refine r_istore_n (ls' := [some (.ref 420), some (.int x), some (.int (shM G c)), some (.int x74), some (.int (nI k)), some (.int (isL (hwR Z53 0 (fun w => ksB (onP G 1 c) k 256 (w &&& k)) 256) T1 4)), some (.int (nI 4))]) rfl dX12_fewest_136 (Nat.le_of_ble_eq_true rfl) rfl ?_
        refine r_iinc (y := nI (k + 1)) (ls' := [some (.ref 420), some (.int x), some (.int (shM G c)), some (.int x74), some (.int (nI (k + 1))), some (.int (isL (hwR Z53 0 (fun w => ksB (onP G 1 c) k 256 (w &&& k)) 256) T1 4)), some (.int (nI 4))]) rfl dX12_fewest_137 rfl (nI_1 k) (Nat.le_of_ble_eq_true rfl) rfl ?_
        refine r_goto (pc' := 27) rfl dX12_fewest_140 ?_
        subst e75
        have hy := fwB_y G c (shM G c) k (by omega)
        have hz := sz_9 hk c52
        have ha : ¬ apB G c k = true := fun z => (isL_ap (G := G) (c := c) (k := k) (A := (hwR Z53 0 (fun w => ksB (onP G 1 c) k 256 (w &&& k)) 256)) (fun p hp => hw0 hp) hB).mpr z c73
        rw [fwB_s G c (shM G c) k, fwS, if_pos c51, if_neg hz, if_neg ha] at ih
        exact ih h64 _ _ hS65 hF72 f67 f68 f69 f70
      · refine r_iload rfl dX12_fewest_130 rfl ?_
        refine r_goto (pc' := 136) rfl dX12_fewest_132 ?_
        refine r_istore_n (ls' := [some (.ref 420), some (.int x), some (.int (shM G c)), some (.int (nI k)), some (.int (nI k)), some (.int (isL (hwR Z53 0 (fun w => ksB (onP G 1 c) k 256 (w &&& k)) 256) T1 4)), some (.int (nI 4))]) rfl dX12_fewest_136 (Nat.le_of_ble_eq_true rfl) rfl ?_
        refine r_iinc (y := nI (k + 1)) (ls' := [some (.ref 420), some (.int x), some (.int (shM G c)), some (.int (nI k)), some (.int (nI (k + 1))), some (.int (isL (hwR Z53 0 (fun w => ksB (onP G 1 c) k 256 (w &&& k)) 256) T1 4)), some (.int (nI 4))]) rfl dX12_fewest_137 rfl (nI_1 k) (Nat.le_of_ble_eq_true rfl) rfl ?_
        refine r_goto (pc' := 27) rfl dX12_fewest_140 ?_
        have hy := fwB_y G c (shM G c) k (by omega)
        have hz := sz_9 hk c52
        have ha : apB G c k = true := (isL_ap (G := G) (c := c) (k := k) (A := (hwR Z53 0 (fun w => ksB (onP G 1 c) k 256 (w &&& k)) 256)) (fun p hp => hw0 hp) hB).mp c73
        rw [fwB_s G c (shM G c) k, fwS, if_pos c51, if_neg hz, if_pos ha] at ih
        exact ih h64 _ _ hS65 hF72 f67 f68 f69 f70
    · refine r_iload rfl dX12_fewest_50 rfl ?_
      refine cl_X12_177 rfl rfl dX12_fewest_52 (Nat.le_of_ble_eq_true rfl) (z_X12_ones hS) ?_
      rintro _ h76 _ ⟨rfl, e77, rfl⟩
      replace e77 := e77.symm
      subst e77
      refine r_iload_n rfl dX12_fewest_55 rfl ?_
      refine cl_X12_177 rfl rfl dX12_fewest_56 (Nat.le_of_ble_eq_true rfl) (z_X12_ones hS) ?_
      rintro _ h78 _ ⟨rfl, e79, rfl⟩
      replace e79 := e79.symm
      subst e79
      refine r_icmp_ge (tgt := 137) rfl rfl dX12_fewest_59 (fun c80 => ?_) (fun c80 => ?_)
      · refine r_iinc (y := nI (k + 1)) (ls' := [some (.ref 420), some (.int x), some (.int (shM G c)), some (.int (fwB G c (shM G c) (k))), some (.int (nI (k + 1))), u5, u6]) rfl dX12_fewest_137 rfl (nI_1 k) (Nat.le_of_ble_eq_true rfl) rfl ?_
        refine r_goto (pc' := 27) rfl dX12_fewest_140 ?_
        have hy := fwB_y G c (shM G c) k (by omega)
        have hz := (sz_on hk hy c52).mpr c80
        rw [fwB_s G c (shM G c) k, fwS, if_pos c51, if_pos hz] at ih
        exact ih h _ _ hS hF h5 h22 h27 h28
      · refine r_aload_n rfl dX12_fewest_62 rfl ?_
        refine r_getv 18 rfl dX12_fewest_63 (show 2 ≤ 420 ∧ 420 < 434 by decide) h5 fl_X12_33 rfl ?_
        refine r_aload_n rfl dX12_fewest_66 rfl ?_
        refine r_getv 23 rfl dX12_fewest_67 (show 2 ≤ 420 ∧ 420 < 434 by decide) h5 fl_X12_48 rfl ?_
        refine r_iload rfl dX12_fewest_70 rfl ?_
        obtain ⟨Z81, f82⟩ := hS.la LA_432
        refine cl_X12_139 rfl rfl dX12_fewest_72 (Nat.le_of_ble_eq_true rfl) (z_X12_spreads (l := k) hS (by decide) (by decide) (by decide) hk hA h27 f82) ?_
        rintro _ h83 _ ⟨rfl, hS84, hk85, f86, rfl⟩
        have hF87 := KM_tr hF (KM_sb (by decide) hk85)
        have f88 : h83 420 = .inr (12, [.int 0, .long tr, .ref 421, .int ty, .int nx, .int tk, .int pl, .int va, .int fa, .int (nI c), .int (nI m), .int ss, .int wg, .ref 422, .ref 423, .ref 424, .ref 425, .ref 426, .ref 427, .ref 428, .ref 429, .ref 430, .ref 431, .ref 432, .ref 433]) := (hk85 420 (by decide)).trans h5
        have f89 : h83 422 = .inl (0, 240, .inl G) := (hk85 422 (by decide)).trans h22
        have f90 : h83 427 = .inl (1, 4, .inr (.inl O1)) := (hk85 427 (by decide)).trans h27
        have f91 : h83 428 = .inl (1, 4, .inr (.inl T1)) := (hk85 428 (by decide)).trans h28
        refine r_iconst (v := 1) rfl dX12_fewest_75 (by decide) ?_
        refine r_istore (ls' := [some (.ref 420), some (.int x), some (.int (shM G c)), some (.int (fwB G c (shM G c) (k))), some (.int (nI k)), some (.int 1), u6]) rfl dX12_fewest_76 (Nat.le_of_ble_eq_true rfl) rfl ?_
        refine r_iconst (v := 0) rfl dX12_fewest_78 (by decide) ?_
        refine r_istore (ls' := [some (.ref 420), some (.int x), some (.int (shM G c)), some (.int (fwB G c (shM G c) (k))), some (.int (nI k)), some (.int 1), some (.int 0)]) rfl dX12_fewest_79 (Nat.le_of_ble_eq_true rfl) rfl ?_
        refine z_fi (w := k) (Z := (hwR Z81 0 (fun w => ksB (onP G 1 c) k 256 (w &&& k)) 256)) (h0 := h83) hk ?_ 4 0 h83 rfl hS84 (KM_rf _) f88 f89 f90 f91 f86
        intro h92 hS93 hF94 f95 f96 f97 f98 f99
        have hF100 := KM_tr hF87 (KM_sb (by decide) hF94)
        refine r_iload rfl dX12_fewest_125 rfl ?_
        refine r_if_eq (tgt := 135) rfl rfl dX12_fewest_127 (fun c101 => ?_) (fun c101 => ?_)
        · refine r_iload_n rfl dX12_fewest_135 rfl ?_
          refine r_topi (fun x102 e103 => ?_)
          refine r_istore_n (ls' := [some (.ref 420), some (.int x), some (.int (shM G c)), some (.int x102), some (.int (nI k)), some (.int (isL (hwR Z81 0 (fun w => ksB (onP G 1 c) k 256 (w &&& k)) 256) T1 4)), some (.int (nI 4))]) rfl dX12_fewest_136 (Nat.le_of_ble_eq_true rfl) rfl ?_
          refine r_iinc (y := nI (k + 1)) (ls' := [some (.ref 420), some (.int x), some (.int (shM G c)), some (.int x102), some (.int (nI (k + 1))), some (.int (isL (hwR Z81 0 (fun w => ksB (onP G 1 c) k 256 (w &&& k)) 256) T1 4)), some (.int (nI 4))]) rfl dX12_fewest_137 rfl (nI_1 k) (Nat.le_of_ble_eq_true rfl) rfl ?_
          refine r_goto (pc' := 27) rfl dX12_fewest_140 ?_
          subst e103
          have hy := fwB_y G c (shM G c) k (by omega)
          have hz : ¬ szF (fwB G c (shM G c) (k)) ≤ bc32 (nI k) := fun z => c80 ((sz_on hk hy c52).mp z)
          have ha : ¬ apB G c k = true := fun z => (isL_ap (G := G) (c := c) (k := k) (A := (hwR Z81 0 (fun w => ksB (onP G 1 c) k 256 (w &&& k)) 256)) (fun p hp => hw0 hp) hB).mpr z c101
          rw [fwB_s G c (shM G c) k, fwS, if_pos c51, if_neg hz, if_neg ha] at ih
          exact ih h92 _ _ hS93 hF100 f95 f96 f97 f98
        · refine r_iload rfl dX12_fewest_130 rfl ?_
          refine r_goto (pc' := 136) rfl dX12_fewest_132 ?_
          refine r_istore_n (ls' := [some (.ref 420), some (.int x), some (.int (shM G c)), some (.int (nI k)), some (.int (nI k)), some (.int (isL (hwR Z81 0 (fun w => ksB (onP G 1 c) k 256 (w &&& k)) 256) T1 4)), some (.int (nI 4))]) rfl dX12_fewest_136 (Nat.le_of_ble_eq_true rfl) rfl ?_
          refine r_iinc (y := nI (k + 1)) (ls' := [some (.ref 420), some (.int x), some (.int (shM G c)), some (.int (nI k)), some (.int (nI (k + 1))), some (.int (isL (hwR Z81 0 (fun w => ksB (onP G 1 c) k 256 (w &&& k)) 256) T1 4)), some (.int (nI 4))]) rfl dX12_fewest_137 rfl (nI_1 k) (Nat.le_of_ble_eq_true rfl) rfl ?_
          refine r_goto (pc' := 27) rfl dX12_fewest_140 ?_
          have hy := fwB_y G c (shM G c) k (by omega)
          have hz : ¬ szF (fwB G c (shM G c) (k)) ≤ bc32 (nI k) := fun z => c80 ((sz_on hk hy c52).mp z)
          have ha : apB G c k = true := (isL_ap (G := G) (c := c) (k := k) (A := (hwR Z81 0 (fun w => ksB (onP G 1 c) k 256 (w &&& k)) 256)) (fun p hp => hw0 hp) hB).mp c101
          rw [fwB_s G c (shM G c) k, fwS, if_pos c51, if_neg hz, if_pos ha] at ih
          exact ih h92 _ _ hS93 hF100 f95 f96 f97 f98
theorem z_fo {xs : Nat → Int32} {L d : Nat} {h0 : ev_H} {tr : Int64} {ty nx tk pl va fa ss wg x : Int32} {c m : Nat} {G : Nat → Int32} {O1 T1 : Nat → Int64} (hx : ¬ inR x 0 1 = 0) (hA : ∀ p, p < 4 → O1 p = wO (onP G 1 c) p) (hB : ∀ p, p < 4 → T1 p = wO (onP G 2 c) p) : ∀ (nn k : Nat) (h : ev_H) (u5 : Option Value) (u6 : Option Value), k + nn = 256 → SH h → KM [420, 432] h0 h → h 420 = .inr (12, [.int 0, .long tr, .ref 421, .int ty, .int nx, .int tk, .int pl, .int va, .int fa, .int (nI c), .int (nI m), .int ss, .int wg, .ref 422, .ref 423, .ref 424, .ref 425, .ref 426, .ref 427, .ref 428, .ref 429, .ref 430, .ref 431, .ref 432, .ref 433]) → h 422 = .inl (0, 240, .inl G) → h 427 = .inl (1, 4, .inr (.inl O1)) → h 428 = .inl (1, 4, .inr (.inl T1)) → EV xs L (d + 2) 0 0 M_X12_fewest 434 h 27 [some (.ref 420), some (.int x), some (.int (shM G c)), some (.int (fwB G c (shM G c) (k))), some (.int (nI k)), u5, u6] [] (fun sz' h' r => sz' = 434 ∧ SH h' ∧ KM [420, 432] h0 h' ∧ r = [.int (fwR G c (shM G c) x)] ∧ h' 420 = c420 0 tr ty nx tk pl va fa (nI c) (nI m) ss wg) := by
  intro nn
  induction nn with
  | zero => intro k h u5 u6 hk hS hF h5 h22 h27 h28; exact z_fo_z hS hx hA hB hF h5 h22 h27 h28 (by omega)
  | succ nn ih => intro k h u5 u6 hk hS hF h5 h22 h27 h28; exact z_fo_s hS hx hA hB hF h5 h22 h27 h28 (by omega) (fun h' u5 u6 q0 q1 q2 q3 q4 q5 => ih (k + 1) h' u5 u6 (by omega) q0 q1 q2 q3 q4 q5)
set_option maxRecDepth 20000 in
set_option maxHeartbeats 1000000 in
theorem z_few_s {xs : Nat → Int32} {L d : Nat} {h : ev_H} {th : Int32} {tr : Int64} {ty nx tk pl va fa ss wg : Int32} {c m : Nat} {x : Int32} {G : Nat → Int32} {O1 T1 : Nat → Int64} (hS : SH h) (h5 : h 420 = .inr (12, [.int th, .long tr, .ref 421, .int ty, .int nx, .int tk, .int pl, .int va, .int fa, .int (nI c), .int (nI m), .int ss, .int wg, .ref 422, .ref 423, .ref 424, .ref 425, .ref 426, .ref 427, .ref 428, .ref 429, .ref 430, .ref 431, .ref 432, .ref 433])) (hc : c ≤ 16) (hm : m ≤ 24) (h22 : h 422 = cI 240 G) (h27 : h 427 = cL 4 O1) (h28 : h 428 = cL 4 T1) (hx : ¬ inR x 0 1 = 0) (hA : ∀ p, p < 4 → O1 p = wO (onP G 1 c) p) (hB : ∀ p, p < 4 → T1 p = wO (onP G 2 c) p) : EV xs L (d + 2) 0 0 M_X12_fewest 434 h 0 [some (.ref 420), some (.int x), none, none, none, none, none] [] (fun sz' h' r => sz' = 434 ∧ SH h' ∧ KM [420, 432] h h' ∧ r = [.int (fwR G c (shM G c) x)] ∧ h' 420 = c420 0 tr ty nx tk pl va fa (nI c) (nI m) ss wg) := by
  refine r_aload_n rfl dX12_fewest_0 rfl ?_
  refine r_iconst (v := 0) rfl dX12_fewest_1 (by decide) ?_
  refine e_put 0 (fs' := [.int 0, .long tr, .ref 421, .int ty, .int nx, .int tk, .int pl, .int va, .int fa, .int (nI c), .int (nI m), .int ss, .int wg, .ref 422, .ref 423, .ref 424, .ref 425, .ref 426, .ref 427, .ref 428, .ref 429, .ref 430, .ref 431, .ref 432, .ref 433]) rfl dX12_fewest_2 (show 2 ≤ 420 ∧ 420 < 434 by decide) hS (KM_rf (Mod := [420, 432]) h) (by decide) h5 (fp_X12_57 rfl _) (Nat.le_of_ble_eq_true rfl) rfl (fun h51 hS52 hF53 hN54 f55 => ?_)
  have f56 : h51 422 = .inl (0, 240, .inl G) := (hN54 422 (by decide)).trans h22
  have f57 : h51 427 = .inl (1, 4, .inr (.inl O1)) := (hN54 427 (by decide)).trans h27
  have f58 : h51 428 = .inl (1, 4, .inr (.inl T1)) := (hN54 428 (by decide)).trans h28
  refine r_iload_n rfl dX12_fewest_5 rfl ?_
  refine r_iconst (v := 0) rfl dX12_fewest_6 (by decide) ?_
  refine r_iconst (v := 1) rfl dX12_fewest_7 (by decide) ?_
  refine cl_X12_60 rfl rfl dX12_fewest_8 (Nat.le_of_ble_eq_true rfl) s_X12_in ?_
  rintro _ h59 _ ⟨rfl, e60, rfl⟩
  replace e60 := e60.symm
  subst e60
  refine r_if_ne (tgt := 16) rfl rfl dX12_fewest_11 (fun _ => ?_) (fun zc => absurd zc hx)
  refine r_aload_n rfl dX12_fewest_16 rfl ?_
  refine cl_X12_133 rfl rfl dX12_fewest_17 (show 2 ≤ 420 ∧ 420 < 434 by decide).1 (show 2 ≤ 420 ∧ 420 < 434 by decide).2 f55 (Nat.le_of_ble_eq_true rfl) (z_X12_shared hS52 f55 hc hm f56) ?_
  rintro _ h61 _ ⟨rfl, e62, rfl⟩
  replace e62 := e62.symm
  subst e62
  refine r_topi (fun x63 e64 => ?_)
  refine r_istore_n (ls' := [some (.ref 420), some (.int x), some (.int x63), none, none, none, none]) rfl dX12_fewest_20 (Nat.le_of_ble_eq_true rfl) rfl ?_
  refine r_bipush (v := (-9)) rfl dX12_fewest_21 (by decide) ?_
  refine r_istore_n (ls' := [some (.ref 420), some (.int x), some (.int x63), some (.int (-9)), none, none, none]) rfl dX12_fewest_23 (Nat.le_of_ble_eq_true rfl) rfl ?_
  refine r_iconst (v := 0) rfl dX12_fewest_24 (by decide) ?_
  refine r_istore (ls' := [some (.ref 420), some (.int x), some (.int x63), some (.int (-9)), some (.int 0), none, none]) rfl dX12_fewest_25 (Nat.le_of_ble_eq_true rfl) rfl ?_
  subst e64
  exact z_fo hx hA hB 256 0 h51 _ _ rfl hS52 hF53 f55 f56 f57 f58
set_option maxRecDepth 20000 in
set_option maxHeartbeats 1000000 in
theorem z_few_o {xs : Nat → Int32} {L d : Nat} {h : ev_H} {th : Int32} {tr : Int64} {ty nx tk pl va fa ss wg : Int32} {c m : Nat} {x : Int32} {G : Nat → Int32} (hS : SH h) (h5 : h 420 = .inr (12, [.int th, .long tr, .ref 421, .int ty, .int nx, .int tk, .int pl, .int va, .int fa, .int (nI c), .int (nI m), .int ss, .int wg, .ref 422, .ref 423, .ref 424, .ref 425, .ref 426, .ref 427, .ref 428, .ref 429, .ref 430, .ref 431, .ref 432, .ref 433])) (hc : c ≤ 16) (hm : m ≤ 24) (hx : inR x 0 1 = 0) : EV xs L (d + 2) 0 0 M_X12_fewest 434 h 0 [some (.ref 420), some (.int x), none, none, none, none, none] [] (fun sz' h' r => sz' = 434 ∧ SH h' ∧ KM [420, 432] h h' ∧ r = [.int (fwR G c (shM G c) x)] ∧ h' 420 = c420 0 tr ty nx tk pl va fa (nI c) (nI m) ss wg) := by
  refine r_aload_n rfl dX12_fewest_0 rfl ?_
  refine r_iconst (v := 0) rfl dX12_fewest_1 (by decide) ?_
  refine e_put 0 (fs' := [.int 0, .long tr, .ref 421, .int ty, .int nx, .int tk, .int pl, .int va, .int fa, .int (nI c), .int (nI m), .int ss, .int wg, .ref 422, .ref 423, .ref 424, .ref 425, .ref 426, .ref 427, .ref 428, .ref 429, .ref 430, .ref 431, .ref 432, .ref 433]) rfl dX12_fewest_2 (show 2 ≤ 420 ∧ 420 < 434 by decide) hS (KM_rf (Mod := [420, 432]) h) (by decide) h5 (fp_X12_57 rfl _) (Nat.le_of_ble_eq_true rfl) rfl (fun h51 hS52 hF53 hN54 f55 => ?_)
  refine r_iload_n rfl dX12_fewest_5 rfl ?_
  refine r_iconst (v := 0) rfl dX12_fewest_6 (by decide) ?_
  refine r_iconst (v := 1) rfl dX12_fewest_7 (by decide) ?_
  refine cl_X12_60 rfl rfl dX12_fewest_8 (Nat.le_of_ble_eq_true rfl) s_X12_in ?_
  rintro _ h56 _ ⟨rfl, e57, rfl⟩
  replace e57 := e57.symm
  subst e57
  refine r_if_ne (tgt := 16) rfl rfl dX12_fewest_11 (fun zc => absurd zc (fun z => z hx)) (fun _ => ?_)
  refine r_iconst (v := (-1)) rfl dX12_fewest_14 (by decide) ?_
  exact r_ret dX12_fewest_15 (rt_i rfl) ⟨rfl, hS52, hF53, (by rw [fwR, if_pos hx] <;> rfl), f55⟩
