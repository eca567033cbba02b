set_option maxRecDepth 20000 in
set_option maxHeartbeats 1000000 in
theorem z_tks_z {xs : Nat → Int32} {L d : Nat} {h : ev_H} {h0 : ev_H} {tr : Int64} {th ty nx tk pl va fa ss wg : Int32} {c m w e : Nat} {G : Nat → Int32} {Y T : Nat → Int64} {k : Nat} (hS : SH h) (hw : w < 3) (hek : e < 40) (hF : KM [432] h0 h) (h5 : h 420 = .inr (12, [.int th, .long tr, .ref 421, .int ty, .int nx, .int tk, .int pl, .int va, .int fa, .int (nI c), .int (nI m), .int ss, .int wg, .ref 422, .ref 423, .ref 424, .ref 425, .ref 426, .ref 427, .ref 428, .ref 429, .ref 430, .ref 431, .ref 432, .ref 433])) (h22 : h 422 = .inl (0, 240, .inl G)) (h26 : h 426 = .inl (1, 480, .inr (.inl Y))) (h32 : h 432 = .inl (1, 4, .inr (.inl (bkR T 0 (fun q => Y (160 * w + 4 * e + q)) (k))))) (hk : k = 4) : EV xs L (d + 1) 0 0 M_X12_takes 434 h 8 [some (.ref 420), some (.int (nI w)), some (.ref 432), some (.int (nI e)), some (.int (nI k))] [] (fun sz' h' r => sz' = 434 ∧ SH h' ∧ KM [432] h0 h' ∧ h' 432 = cL 4 (bkR T 0 (fun q => Y (160 * w + 4 * e + q)) 4) ∧ r = [.int 1]) := by
  refine r_iload rfl dX12_takes_8 rfl ?_
  refine r_iconst (v := 4) rfl dX12_takes_10 (by decide) ?_
  refine r_icmp_ge (tgt := 96) rfl rfl dX12_takes_11 (fun _ => ?_) (fun zc => absurd (show nI (4) ≤ nI k from nI_le (a := 4) (b := k) (by omega) (by omega)) zc)
  refine r_iload_n rfl dX12_takes_96 rfl ?_
  refine r_iconst (v := 2) rfl dX12_takes_97 (by decide) ?_
  refine r_icmp_gt (tgt := 107) rfl rfl dX12_takes_98 (fun zc => absurd zc (nI_nlt (a := 2) (b := w) (by omega) (by omega))) (fun _ => ?_)
  refine r_iload_n rfl dX12_takes_101 rfl ?_
  refine r_bipush (v := (-9)) rfl dX12_takes_102 (by decide) ?_
  refine r_icmp_eq (tgt := 111) rfl rfl dX12_takes_104 (fun zc => absurd zc (nI_nm9 (by omega))) (fun _ => ?_)
  refine r_iconst (v := 1) rfl dX12_takes_107 (by decide) ?_
  refine r_goto (pc' := 112) rfl dX12_takes_108 ?_
  subst hk
  exact r_ret dX12_takes_112 (rt_z rfl (Or.inr rfl)) ⟨rfl, hS, hF, h32, rfl⟩
set_option maxRecDepth 20000 in
set_option maxHeartbeats 1000000 in
theorem z_tks_s {xs : Nat → Int32} {L d : Nat} {h : ev_H} {h0 : ev_H} {tr : Int64} {th ty nx tk pl va fa ss wg : Int32} {c m w e : Nat} {G : Nat → Int32} {Y T : Nat → Int64} {k : Nat} (hS : SH h) (hw : w < 3) (hek : e < 40) (hF : KM [432] h0 h) (h5 : h 420 = .inr (12, [.int th, .long tr, .ref 421, .int ty, .int nx, .int tk, .int pl, .int va, .int fa, .int (nI c), .int (nI m), .int ss, .int wg, .ref 422, .ref 423, .ref 424, .ref 425, .ref 426, .ref 427, .ref 428, .ref 429, .ref 430, .ref 431, .ref 432, .ref 433])) (h22 : h 422 = .inl (0, 240, .inl G)) (h26 : h 426 = .inl (1, 480, .inr (.inl Y))) (h32 : h 432 = .inl (1, 4, .inr (.inl (bkR T 0 (fun q => Y (160 * w + 4 * e + q)) (k))))) (hk : k < 4) (ih : ∀ (h' : ev_H), SH h' → KM [432] h0 h' → h' 420 = .inr (12, [.int th, .long tr, .ref 421, .int ty, .int nx, .int tk, .int pl, .int va, .int fa, .int (nI c), .int (nI m), .int ss, .int wg, .ref 422, .ref 423, .ref 424, .ref 425, .ref 426, .ref 427, .ref 428, .ref 429, .ref 430, .ref 431, .ref 432, .ref 433]) → h' 422 = .inl (0, 240, .inl G) → h' 426 = .inl (1, 480, .inr (.inl Y)) → h' 432 = .inl (1, 4, .inr (.inl (bkR T 0 (fun q => Y (160 * w + 4 * e + q)) (k + 1)))) → EV xs L (d + 1) 0 0 M_X12_takes 434 h' 8 [some (.ref 420), some (.int (nI w)), some (.ref 432), some (.int (nI e)), some (.int (nI (k + 1)))] [] (fun sz' h' r => sz' = 434 ∧ SH h' ∧ KM [432] h0 h' ∧ h' 432 = cL 4 (bkR T 0 (fun q => Y (160 * w + 4 * e + q)) 4) ∧ r = [.int 1])) : EV xs L (d + 1) 0 0 M_X12_takes 434 h 8 [some (.ref 420), some (.int (nI w)), some (.ref 432), some (.int (nI e)), some (.int (nI k))] [] (fun sz' h' r => sz' = 434 ∧ SH h' ∧ KM [432] h0 h' ∧ h' 432 = cL 4 (bkR T 0 (fun q => Y (160 * w + 4 * e + q)) 4) ∧ r = [.int 1]) := by
  refine r_iload rfl dX12_takes_8 rfl ?_
  refine r_iconst (v := 4) rfl dX12_takes_10 (by decide) ?_
  refine r_icmp_ge (tgt := 96) rfl rfl dX12_takes_11 (fun zc => absurd zc (show ¬ nI (4) ≤ nI k from nI_ge (a := k) (b := 4) (by omega) (by omega))) (fun _ => ?_)
  refine r_aload_n rfl dX12_takes_14 rfl ?_
  refine r_iload rfl dX12_takes_15 rfl ?_
  refine r_iload_n rfl dX12_takes_17 rfl ?_
  refine r_iconst (v := 3) rfl dX12_takes_18 (by decide) ?_
  refine r_icmp_ne (tgt := 32) rfl rfl dX12_takes_19 (fun _ => ?_) (fun zc => absurd zc (fun z => by have := (nI_eq (a := w) (b := 3) (by omega) (by decide)).mp z; omega))
  refine r_iload_n rfl dX12_takes_32 rfl ?_
  refine r_iconst (v := 4) rfl dX12_takes_33 (by decide) ?_
  refine r_icmp_ne (tgt := 47) rfl rfl dX12_takes_34 (fun _ => ?_) (fun zc => absurd zc (fun z => by have := (nI_eq (a := w) (b := 4) (by omega) (by decide)).mp z; omega))
  refine r_iload_n rfl dX12_takes_47 rfl ?_
  refine r_iconst (v := 5) rfl dX12_takes_48 (by decide) ?_
  refine r_icmp_ne (tgt := 62) rfl rfl dX12_takes_49 (fun _ => ?_) (fun zc => absurd zc (fun z => by have := (nI_eq (a := w) (b := 5) (by omega) (by decide)).mp z; omega))
  refine r_iload_n rfl dX12_takes_62 rfl ?_
  refine r_bipush (v := (-9)) rfl dX12_takes_63 (by decide) ?_
  refine r_icmp_ne (tgt := 72) rfl rfl dX12_takes_65 (fun _ => ?_) (fun zc => absurd zc (nI_nm9 (by omega)))
  refine r_aload_n rfl dX12_takes_72 rfl ?_
  refine r_getv 17 rfl dX12_takes_73 (show 2 ≤ 420 ∧ 420 < 434 by decide) h5 fl_X12_30 rfl ?_
  refine r_sipush (v := 160) rfl dX12_takes_76 (by decide) ?_
  refine r_iload_n rfl dX12_takes_79 rfl ?_
  refine r_imul rfl dX12_takes_80 ?_
  refine r_eqi (y := nI (160 * w)) (show 160 * (nI w) = nI (160 * w) from pk_mul 160 w) ?_
  refine r_iconst (v := 4) rfl dX12_takes_81 (by decide) ?_
  refine r_iload_n rfl dX12_takes_82 rfl ?_
  refine r_imul rfl dX12_takes_83 ?_
  refine r_eqi (y := nI (4 * e)) (show 4 * (nI e) = nI (4 * e) from pk_mul 4 e) ?_
  refine r_iadd rfl dX12_takes_84 ?_
  refine r_eqi (y := nI ((160 * w) + (4 * e))) (show (nI (160 * w)) + (nI (4 * e)) = nI ((160 * w) + (4 * e)) from nI_add (160 * w) (4 * e)) ?_
  refine r_iload rfl dX12_takes_85 rfl ?_
  refine r_iadd rfl dX12_takes_87 ?_
  refine r_eqi (y := nI (((160 * w) + (4 * e)) + k)) (show (nI ((160 * w) + (4 * e))) + (nI k) = nI (((160 * w) + (4 * e)) + k) from nI_add ((160 * w) + (4 * e)) k) ?_
  refine r_laldv (jn := ((160 * w) + (4 * e)) + k) (v := Y (((160 * w) + (4 * e)) + k)) rfl dX12_takes_88 (show 2 ≤ 426 ∧ 426 < 434 by decide) h26 (vp_in_nI (n := ((160 * w) + (4 * e)) + k) (by omega) (by decide)) (nI_clamp (n := ((160 * w) + (4 * e)) + k) (by omega)) rfl ?_
  refine e_last (jn := k) rfl dX12_takes_89 (show 2 ≤ 432 ∧ 432 < 434 by decide) hS hF (by decide) h32 (vp_in_nI (n := k) (by omega) (by decide)) (nI_clamp (n := k) (by omega)) (fun h51 hS52 hF53 hN54 f55 => ?_)
  have f56 : h51 420 = .inr (12, [.int th, .long tr, .ref 421, .int ty, .int nx, .int tk, .int pl, .int va, .int fa, .int (nI c), .int (nI m), .int ss, .int wg, .ref 422, .ref 423, .ref 424, .ref 425, .ref 426, .ref 427, .ref 428, .ref 429, .ref 430, .ref 431, .ref 432, .ref 433]) := (hN54 420 (by decide)).trans h5
  have f57 : h51 422 = .inl (0, 240, .inl G) := (hN54 422 (by decide)).trans h22
  have f58 : h51 426 = .inl (1, 480, .inr (.inl Y)) := (hN54 426 (by decide)).trans h26
  refine r_iinc (y := nI (k + 1)) (ls' := [some (.ref 420), some (.int (nI w)), some (.ref 432), some (.int (nI e)), some (.int (nI (k + 1)))]) rfl dX12_takes_90 rfl (nI_1 k) (Nat.le_of_ble_eq_true rfl) rfl ?_
  refine r_goto (pc' := 8) rfl dX12_takes_93 ?_
  exact ih h51 hS52 hF53 f56 f57 f58 (by rw [← bkR_s, show 4 * 0 + k = k by omega]; exact f55)
theorem z_tks {xs : Nat → Int32} {L d : Nat} {h0 : ev_H} {tr : Int64} {th ty nx tk pl va fa ss wg : Int32} {c m w e : Nat} {G : Nat → Int32} {Y T : Nat → Int64} (hw : w < 3) (hek : e < 40) : ∀ (nn k : Nat) (h : ev_H), k + nn = 4 → SH h → KM [432] h0 h → h 420 = .inr (12, [.int th, .long tr, .ref 421, .int ty, .int nx, .int tk, .int pl, .int va, .int fa, .int (nI c), .int (nI m), .int ss, .int wg, .ref 422, .ref 423, .ref 424, .ref 425, .ref 426, .ref 427, .ref 428, .ref 429, .ref 430, .ref 431, .ref 432, .ref 433]) → h 422 = .inl (0, 240, .inl G) → h 426 = .inl (1, 480, .inr (.inl Y)) → h 432 = .inl (1, 4, .inr (.inl (bkR T 0 (fun q => Y (160 * w + 4 * e + q)) (k)))) → EV xs L (d + 1) 0 0 M_X12_takes 434 h 8 [some (.ref 420), some (.int (nI w)), some (.ref 432), some (.int (nI e)), some (.int (nI k))] [] (fun sz' h' r => sz' = 434 ∧ SH h' ∧ KM [432] h0 h' ∧ h' 432 = cL 4 (bkR T 0 (fun q => Y (160 * w + 4 * e + q)) 4) ∧ r = [.int 1]) := by
  intro nn
  induction nn with
  | zero => intro k h hk hS hF h5 h22 h26 h32; exact z_tks_z hS hw hek hF h5 h22 h26 h32 (by omega)
  | succ nn ih => intro k h hk hS hF h5 h22 h26 h32; exact z_tks_s hS hw hek hF h5 h22 h26 h32 (by omega) (fun h' q0 q1 q2 q3 q4 q5 => ih (k + 1) h' (by omega) q0 q1 q2 q3 q4 q5)
set_option maxRecDepth 20000 in
set_option maxHeartbeats 1000000 in
theorem z_X12_takes_s {xs : Nat → Int32} {L d : Nat} {h : ev_H} {tr : Int64} {th ty nx tk pl va fa ss wg : Int32} {c m w e : Nat} {G : Nat → Int32} {Y T : Nat → Int64} (hS : SH h) (hc : c ≤ 16) (hm : m ≤ 24) (hw : w < 3) (hek : e < 40) (h5 : h 420 = .inr (12, [.int th, .long tr, .ref 421, .int ty, .int nx, .int tk, .int pl, .int va, .int fa, .int (nI c), .int (nI m), .int ss, .int wg, .ref 422, .ref 423, .ref 424, .ref 425, .ref 426, .ref 427, .ref 428, .ref 429, .ref 430, .ref 431, .ref 432, .ref 433])) (h22 : h 422 = .inl (0, 240, .inl G)) (h26 : h 426 = .inl (1, 480, .inr (.inl Y))) (h32 : h 432 = .inl (1, 4, .inr (.inl T))) (he : enM G (c + m) 0 = nI e) : EV xs L (d + 1) 0 0 M_X12_takes 434 h 0 [some (.ref 420), some (.int (nI w)), some (.ref 432), none, none] [] (fun sz' h' r => sz' = 434 ∧ SH h' ∧ KM [432] h h' ∧ h' 432 = cL 4 (bkR T 0 (fun q => Y (160 * w + 4 * e + q)) 4) ∧ r = [.int 1]) := by
  refine r_aload_n rfl dX12_takes_0 rfl ?_
  refine cl_X12_154 rfl rfl dX12_takes_1 (show 2 ≤ 420 ∧ 420 < 434 by decide).1 (show 2 ≤ 420 ∧ 420 < 434 by decide).2 h5 (Nat.le_of_ble_eq_true rfl) (y_X12_ending hS h5 hc hm h22) ?_
  rintro _ h51 _ ⟨rfl, e52, rfl⟩
  replace e52 := e52.symm
  subst e52
  refine r_eqi (y := nI e) he ?_
  refine r_istore_n (ls' := [some (.ref 420), some (.int (nI w)), some (.ref 432), some (.int (nI e)), none]) rfl dX12_takes_4 (Nat.le_of_ble_eq_true rfl) rfl ?_
  refine r_iconst (v := 0) rfl dX12_takes_5 (by decide) ?_
  refine r_istore (ls' := [some (.ref 420), some (.int (nI w)), some (.ref 432), some (.int (nI e)), some (.int 0)]) rfl dX12_takes_6 (Nat.le_of_ble_eq_true rfl) rfl ?_
  exact z_tks hw hek 4 0 h rfl hS (KM_rf (Mod := [432]) h) h5 h22 h26 (by rw [bkR_0]; exact h32)
set_option maxRecDepth 20000 in
set_option maxHeartbeats 1000000 in
theorem z_tkz_z {xs : Nat → Int32} {L d : Nat} {h : ev_H} {h0 : ev_H} {tr : Int64} {th ty nx tk pl va fa ss wg : Int32} {c m w : Nat} {G : Nat → Int32} {Y T : Nat → Int64} {k : Nat} (hS : SH h) (hw : w < 3) (hF : KM [432] h0 h) (h5 : h 420 = .inr (12, [.int th, .long tr, .ref 421, .int ty, .int nx, .int tk, .int pl, .int va, .int fa, .int (nI c), .int (nI m), .int ss, .int wg, .ref 422, .ref 423, .ref 424, .ref 425, .ref 426, .ref 427, .ref 428, .ref 429, .ref 430, .ref 431, .ref 432, .ref 433])) (h22 : h 422 = .inl (0, 240, .inl G)) (h26 : h 426 = .inl (1, 480, .inr (.inl Y))) (h32 : h 432 = .inl (1, 4, .inr (.inl (bkR T 0 (fun _ => 0) (k))))) (hk : k = 4) : EV xs L (d + 1) 0 0 M_X12_takes 434 h 8 [some (.ref 420), some (.int (nI w)), some (.ref 432), some (.int (-9)), some (.int (nI k))] [] (fun sz' h' r => sz' = 434 ∧ SH h' ∧ KM [432] h0 h' ∧ h' 432 = cL 4 (bkR T 0 (fun _ => 0) 4) ∧ r = [.int 0]) := by
  refine r_iload rfl dX12_takes_8 rfl ?_
  refine r_iconst (v := 4) rfl dX12_takes_10 (by decide) ?_
  refine r_icmp_ge (tgt := 96) rfl rfl dX12_takes_11 (fun _ => ?_) (fun zc => absurd (show nI (4) ≤ nI k from nI_le (a := 4) (b := k) (by omega) (by omega)) zc)
  refine r_iload_n rfl dX12_takes_96 rfl ?_
  refine r_iconst (v := 2) rfl dX12_takes_97 (by decide) ?_
  refine r_icmp_gt (tgt := 107) rfl rfl dX12_takes_98 (fun zc => absurd zc (nI_nlt (a := 2) (b := w) (by omega) (by omega))) (fun _ => ?_)
  refine r_iload_n rfl dX12_takes_101 rfl ?_
  refine r_bipush (v := (-9)) rfl dX12_takes_102 (by decide) ?_
  refine r_icmp_eq (tgt := 111) rfl rfl dX12_takes_104 (fun _ => ?_) (fun zc => absurd zc (by decide))
  refine r_iconst (v := 0) rfl dX12_takes_111 (by decide) ?_
  subst hk
  exact r_ret dX12_takes_112 (rt_z rfl (Or.inl rfl)) ⟨rfl, hS, hF, h32, rfl⟩
set_option maxRecDepth 20000 in
set_option maxHeartbeats 1000000 in
theorem z_tkz_s {xs : Nat → Int32} {L d : Nat} {h : ev_H} {h0 : ev_H} {tr : Int64} {th ty nx tk pl va fa ss wg : Int32} {c m w : Nat} {G : Nat → Int32} {Y T : Nat → Int64} {k : Nat} (hS : SH h) (hw : w < 3) (hF : KM [432] h0 h) (h5 : h 420 = .inr (12, [.int th, .long tr, .ref 421, .int ty, .int nx, .int tk, .int pl, .int va, .int fa, .int (nI c), .int (nI m), .int ss, .int wg, .ref 422, .ref 423, .ref 424, .ref 425, .ref 426, .ref 427, .ref 428, .ref 429, .ref 430, .ref 431, .ref 432, .ref 433])) (h22 : h 422 = .inl (0, 240, .inl G)) (h26 : h 426 = .inl (1, 480, .inr (.inl Y))) (h32 : h 432 = .inl (1, 4, .inr (.inl (bkR T 0 (fun _ => 0) (k))))) (hk : k < 4) (ih : ∀ (h' : ev_H), SH h' → KM [432] h0 h' → h' 420 = .inr (12, [.int th, .long tr, .ref 421, .int ty, .int nx, .int tk, .int pl, .int va, .int fa, .int (nI c), .int (nI m), .int ss, .int wg, .ref 422, .ref 423, .ref 424, .ref 425, .ref 426, .ref 427, .ref 428, .ref 429, .ref 430, .ref 431, .ref 432, .ref 433]) → h' 422 = .inl (0, 240, .inl G) → h' 426 = .inl (1, 480, .inr (.inl Y)) → h' 432 = .inl (1, 4, .inr (.inl (bkR T 0 (fun _ => 0) (k + 1)))) → EV xs L (d + 1) 0 0 M_X12_takes 434 h' 8 [some (.ref 420), some (.int (nI w)), some (.ref 432), some (.int (-9)), some (.int (nI (k + 1)))] [] (fun sz' h' r => sz' = 434 ∧ SH h' ∧ KM [432] h0 h' ∧ h' 432 = cL 4 (bkR T 0 (fun _ => 0) 4) ∧ r = [.int 0])) : EV xs L (d + 1) 0 0 M_X12_takes 434 h 8 [some (.ref 420), some (.int (nI w)), some (.ref 432), some (.int (-9)), some (.int (nI k))] [] (fun sz' h' r => sz' = 434 ∧ SH h' ∧ KM [432] h0 h' ∧ h' 432 = cL 4 (bkR T 0 (fun _ => 0) 4) ∧ r = [.int 0]) := by
  refine r_iload rfl dX12_takes_8 rfl ?_
  refine r_iconst (v := 4) rfl dX12_takes_10 (by decide) ?_
  refine r_icmp_ge (tgt := 96) rfl rfl dX12_takes_11 (fun zc => absurd zc (show ¬ nI (4) ≤ nI k from nI_ge (a := k) (b := 4) (by omega) (by omega))) (fun _ => ?_)
  refine r_aload_n rfl dX12_takes_14 rfl ?_
  refine r_iload rfl dX12_takes_15 rfl ?_
  refine r_iload_n rfl dX12_takes_17 rfl ?_
  refine r_iconst (v := 3) rfl dX12_takes_18 (by decide) ?_
  refine r_icmp_ne (tgt := 32) rfl rfl dX12_takes_19 (fun _ => ?_) (fun zc => absurd zc (fun z => by have := (nI_eq (a := w) (b := 3) (by omega) (by decide)).mp z; omega))
  refine r_iload_n rfl dX12_takes_32 rfl ?_
  refine r_iconst (v := 4) rfl dX12_takes_33 (by decide) ?_
  refine r_icmp_ne (tgt := 47) rfl rfl dX12_takes_34 (fun _ => ?_) (fun zc => absurd zc (fun z => by have := (nI_eq (a := w) (b := 4) (by omega) (by decide)).mp z; omega))
  refine r_iload_n rfl dX12_takes_47 rfl ?_
  refine r_iconst (v := 5) rfl dX12_takes_48 (by decide) ?_
  refine r_icmp_ne (tgt := 62) rfl rfl dX12_takes_49 (fun _ => ?_) (fun zc => absurd zc (fun z => by have := (nI_eq (a := w) (b := 5) (by omega) (by decide)).mp z; omega))
  refine r_iload_n rfl dX12_takes_62 rfl ?_
  refine r_bipush (v := (-9)) rfl dX12_takes_63 (by decide) ?_
  refine r_icmp_ne (tgt := 72) rfl rfl dX12_takes_65 (fun zc => absurd zc (by decide)) (fun _ => ?_)
  refine r_lconst (v := 0) rfl dX12_takes_68 (by decide) ?_
  refine r_goto (pc' := 89) rfl dX12_takes_69 ?_
  refine e_last (jn := k) rfl dX12_takes_89 (show 2 ≤ 432 ∧ 432 < 434 by decide) hS hF (by decide) h32 (vp_in_nI (n := k) (by omega) (by decide)) (nI_clamp (n := k) (by omega)) (fun h51 hS52 hF53 hN54 f55 => ?_)
  have f56 : h51 420 = .inr (12, [.int th, .long tr, .ref 421, .int ty, .int nx, .int tk, .int pl, .int va, .int fa, .int (nI c), .int (nI m), .int ss, .int wg, .ref 422, .ref 423, .ref 424, .ref 425, .ref 426, .ref 427, .ref 428, .ref 429, .ref 430, .ref 431, .ref 432, .ref 433]) := (hN54 420 (by decide)).trans h5
  have f57 : h51 422 = .inl (0, 240, .inl G) := (hN54 422 (by decide)).trans h22
  have f58 : h51 426 = .inl (1, 480, .inr (.inl Y)) := (hN54 426 (by decide)).trans h26
  refine r_iinc (y := nI (k + 1)) (ls' := [some (.ref 420), some (.int (nI w)), some (.ref 432), some (.int (-9)), some (.int (nI (k + 1)))]) rfl dX12_takes_90 rfl (nI_1 k) (Nat.le_of_ble_eq_true rfl) rfl ?_
  refine r_goto (pc' := 8) rfl dX12_takes_93 ?_
  exact ih h51 hS52 hF53 f56 f57 f58 (by rw [← bkR_s, show 4 * 0 + k = k by omega]; exact f55)
theorem z_tkz {xs : Nat → Int32} {L d : Nat} {h0 : ev_H} {tr : Int64} {th ty nx tk pl va fa ss wg : Int32} {c m w : Nat} {G : Nat → Int32} {Y T : Nat → Int64} (hw : w < 3) : ∀ (nn k : Nat) (h : ev_H), k + nn = 4 → SH h → KM [432] h0 h → h 420 = .inr (12, [.int th, .long tr, .ref 421, .int ty, .int nx, .int tk, .int pl, .int va, .int fa, .int (nI c), .int (nI m), .int ss, .int wg, .ref 422, .ref 423, .ref 424, .ref 425, .ref 426, .ref 427, .ref 428, .ref 429, .ref 430, .ref 431, .ref 432, .ref 433]) → h 422 = .inl (0, 240, .inl G) → h 426 = .inl (1, 480, .inr (.inl Y)) → h 432 = .inl (1, 4, .inr (.inl (bkR T 0 (fun _ => 0) (k)))) → EV xs L (d + 1) 0 0 M_X12_takes 434 h 8 [some (.ref 420), some (.int (nI w)), some (.ref 432), some (.int (-9)), some (.int (nI k))] [] (fun sz' h' r => sz' = 434 ∧ SH h' ∧ KM [432] h0 h' ∧ h' 432 = cL 4 (bkR T 0 (fun _ => 0) 4) ∧ r = [.int 0]) := by
  intro nn
  induction nn with
  | zero => intro k h hk hS hF h5 h22 h26 h32; exact z_tkz_z hS hw hF h5 h22 h26 h32 (by omega)
  | succ nn ih => intro k h hk hS hF h5 h22 h26 h32; exact z_tkz_s hS hw hF h5 h22 h26 h32 (by omega) (fun h' q0 q1 q2 q3 q4 q5 => ih (k + 1) h' (by omega) q0 q1 q2 q3 q4 q5)
set_option maxRecDepth 20000 in
set_option maxHeartbeats 1000000 in
theorem z_X12_takes_z {xs : Nat → Int32} {L d : Nat} {h : ev_H} {tr : Int64} {th ty nx tk pl va fa ss wg : Int32} {c m w : Nat} {G : Nat → Int32} {Y T : Nat → Int64} (hS : SH h) (hc : c ≤ 16) (hm : m ≤ 24) (hw : w < 3) (h5 : h 420 = .inr (12, [.int th, .long tr, .ref 421, .int ty, .int nx, .int tk, .int pl, .int va, .int fa, .int (nI c), .int (nI m), .int ss, .int wg, .ref 422, .ref 423, .ref 424, .ref 425, .ref 426, .ref 427, .ref 428, .ref 429, .ref 430, .ref 431, .ref 432, .ref 433])) (h22 : h 422 = .inl (0, 240, .inl G)) (h26 : h 426 = .inl (1, 480, .inr (.inl Y))) (h32 : h 432 = .inl (1, 4, .inr (.inl T))) (he : enM G (c + m) 0 = (-9)) : EV xs L (d + 1) 0 0 M_X12_takes 434 h 0 [some (.ref 420), some (.int (nI w)), some (.ref 432), none, none] [] (fun sz' h' r => sz' = 434 ∧ SH h' ∧ KM [432] h h' ∧ h' 432 = cL 4 (bkR T 0 (fun _ => 0) 4) ∧ r = [.int 0]) := by
  refine r_aload_n rfl dX12_takes_0 rfl ?_
  refine cl_X12_154 rfl rfl dX12_takes_1 (show 2 ≤ 420 ∧ 420 < 434 by decide).1 (show 2 ≤ 420 ∧ 420 < 434 by decide).2 h5 (Nat.le_of_ble_eq_true rfl) (y_X12_ending hS h5 hc hm h22) ?_
  rintro _ h51 _ ⟨rfl, e52, rfl⟩
  replace e52 := e52.symm
  subst e52
  refine r_eqi (y := (-9)) he ?_
  refine r_istore_n (ls' := [some (.ref 420), some (.int (nI w)), some (.ref 432), some (.int (-9)), none]) rfl dX12_takes_4 (Nat.le_of_ble_eq_true rfl) rfl ?_
  refine r_iconst (v := 0) rfl dX12_takes_5 (by decide) ?_
  refine r_istore (ls' := [some (.ref 420), some (.int (nI w)), some (.ref 432), some (.int (-9)), some (.int 0)]) rfl dX12_takes_6 (Nat.le_of_ble_eq_true rfl) rfl ?_
  exact z_tkz hw 4 0 h rfl hS (KM_rf (Mod := [432]) h) h5 h22 h26 (by rw [bkR_0]; exact h32)
/-- the worlds of four words -/
def pO (V : Nat → Int64) : Nat → Bool := fun w => tb (V (w / 64)) (w % 64)
theorem pO_w (V : Nat → Int64) (p : Nat) : V p = wO (pO V) p := tb_ext (fun j hj => by rw [wO_tb _ p hj, pO, show (64 * p + j) / 64 = p by omega, show (64 * p + j) % 64 = j by omega])
theorem ckL_cg {A B S A' B' S' : Nat → Int64} : ∀ n v, (∀ p, p < n → A p = A' p ∧ B p = B' p ∧ S p = S' p) → ckL A B S n v = ckL A' B' S' n v
  | 0, v, _ => rfl
  | n + 1, v, h => by
    rw [ckL, ckL, ck1, ck1, (h n (by omega)).1, (h n (by omega)).2.1, (h n (by omega)).2.2]
    exact ckL_cg n _ (fun p hp => h p (by omega))
/-- what between answers of a saying; of a way -/
def btV (G : Nat → Int32) (c : Nat) (V : Nat → Int64) : Int32 := if lkO (pO V) 256 &&& (nI (shN G c) ^^^ (-1)) = 0 then ckL (wO (onP G 1 c)) (wO (onP G 2 c)) V 4 0 else 1
def btR (G : Nat → Int32) (c k : Nat) (x : Int32) : Int32 := if inR x 0 2 = 0 then -1 else if enM G k 0 = -9 then -2 else btV G c (fun q => yG G c k (160 * x.toNatClampNeg + 4 * (enM G k 0).toNatClampNeg + q))
theorem inR3 {w : Nat} (hw : w < 3) : ¬ inR (nI w) 0 2 = 0 := by
  unfold inR
  rw [if_neg (show ¬ nI w < (0 : Int32) from nI_nlt (a := w) (b := 0) (by omega) (by omega)), if_neg (show ¬ (2 : Int32) < nI w from nI_nlt (a := 2) (b := w) (by omega) (by omega))]
  decide
set_option maxRecDepth 20000 in
set_option maxHeartbeats 1000000 in
theorem z_btw_s {xs : Nat → Int32} {L d : Nat} {h : ev_H} {tr : Int64} {th ty nx tk pl va fa ss wg : Int32} {c m w e : Nat} {G : Nat → Int32} {Y T O1 T1 : Nat → Int64} {P : Nat → Bool} (hS : SH h) (hc : c ≤ 16) (hm : m ≤ 24) (hw : w < 3) (hek : e < 40) (h5 : h 420 = .inr (12, [.int th, .long tr, .ref 421, .int ty, .int nx, .int tk, .int pl, .int va, .int fa, .int (nI c), .int (nI m), .int ss, .int wg, .ref 422, .ref 423, .ref 424, .ref 425, .ref 426, .ref 427, .ref 428, .ref 429, .ref 430, .ref 431, .ref 432, .ref 433])) (h22 : h 422 = .inl (0, 240, .inl G)) (h26 : h 426 = .inl (1, 480, .inr (.inl Y))) (h27 : h 427 = .inl (1, 4, .inr (.inl O1))) (h28 : h 428 = .inl (1, 4, .inr (.inl T1))) (h32 : h 432 = .inl (1, 4, .inr (.inl T))) (he : enM G (c + m) 0 = nI e) (hP : ∀ p, p < 4 → Y (160 * w + 4 * e + p) = wO P p) : EV xs L (d + 3) 0 0 M_X12_between 434 h 0 [some (.ref 420), some (.int (nI w))] [] (fun sz' h' r => sz' = 434 ∧ SH h' ∧ KM [420, 432] h h' ∧ r = [.int ((if lkO P 256 &&& (shM G c ^^^ (-1)) = 0 then ckL O1 T1 (bkR T 0 (fun q => Y (160 * w + 4 * e + q)) 4) 4 0 else 1))] ∧ h' 420 = c420 0 tr ty nx tk pl va fa (nI c) (nI m) ss wg) := by
  refine r_aload_n rfl dX12_between_0 rfl ?_
  refine r_iconst (v := 0) rfl dX12_between_1 (by decide) ?_
  refine e_put 0 (fs' := [.int 0, .long tr, .ref 421, .int ty, .int nx, .int tk, .int pl, .int va, .int fa, .int (nI c), .int (nI m), .int ss, .int wg, .ref 422, .ref 423, .ref 424, .ref 425, .ref 426, .ref 427, .ref 428, .ref 429, .ref 430, .ref 431, .ref 432, .ref 433]) rfl dX12_between_2 (show 2 ≤ 420 ∧ 420 < 434 by decide) hS (KM_rf (Mod := [420, 432]) h) (by decide) h5 (fp_X12_57 rfl _) (Nat.le_of_ble_eq_true rfl) rfl (fun h51 hS52 hF53 hN54 f55 => ?_)
  have f56 : h51 422 = .inl (0, 240, .inl G) := (hN54 422 (by decide)).trans h22
  have f57 : h51 426 = .inl (1, 480, .inr (.inl Y)) := (hN54 426 (by decide)).trans h26
  have f58 : h51 427 = .inl (1, 4, .inr (.inl O1)) := (hN54 427 (by decide)).trans h27
  have f59 : h51 428 = .inl (1, 4, .inr (.inl T1)) := (hN54 428 (by decide)).trans h28
  have f60 : h51 432 = .inl (1, 4, .inr (.inl T)) := (hN54 432 (by decide)).trans h32
  refine r_iload_n rfl dX12_between_5 rfl ?_
  refine cl_X12_164 rfl rfl dX12_between_6 (Nat.le_of_ble_eq_true rfl) (s_X12_isWay hS52) ?_
  rintro _ h61 _ ⟨rfl, e62, rfl⟩
  replace e62 := e62.symm
  subst e62
  refine r_if_ne (tgt := 16) rfl rfl dX12_between_9 (fun _ => ?_) (fun zc => absurd zc (inR3 hw))
  refine r_aload_n rfl dX12_between_16 rfl ?_
  refine r_iload_n rfl dX12_between_17 rfl ?_
  refine r_aload_n rfl dX12_between_18 rfl ?_
  refine r_getv 23 rfl dX12_between_19 (show 2 ≤ 420 ∧ 420 < 434 by decide) f55 fl_X12_48 rfl ?_
  refine cl_X12_170 rfl rfl dX12_between_22 (show 2 ≤ 420 ∧ 420 < 434 by decide).1 (show 2 ≤ 420 ∧ 420 < 434 by decide).2 f55 (Nat.le_of_ble_eq_true rfl) (z_X12_takes_s hS52 hc hm hw hek f55 f56 f57 f60 he) ?_
  rintro _ h63 _ ⟨rfl, hS64, hk65, f66, rfl⟩
  have hF67 := KM_tr hF53 (KM_sb (by decide) hk65)
  have f68 : h63 422 = .inl (0, 240, .inl G) := (hk65 422 (by decide)).trans f56
  have f69 : h63 426 = .inl (1, 480, .inr (.inl Y)) := (hk65 426 (by decide)).trans f57
  have f70 : h63 427 = .inl (1, 4, .inr (.inl O1)) := (hk65 427 (by decide)).trans f58
  have f71 : h63 428 = .inl (1, 4, .inr (.inl T1)) := (hk65 428 (by decide)).trans f59
  have f72 : h63 420 = .inr (12, [.int 0, .long tr, .ref 421, .int ty, .int nx, .int tk, .int pl, .int va, .int fa, .int (nI c), .int (nI m), .int ss, .int wg, .ref 422, .ref 423, .ref 424, .ref 425, .ref 426, .ref 427, .ref 428, .ref 429, .ref 430, .ref 431, .ref 432, .ref 433]) := (hk65 420 (by decide)).trans f55
  refine r_if_eq (tgt := 39) rfl rfl dX12_between_25 (fun zc => absurd zc (by decide)) (fun _ => ?_)
  refine r_aload_n rfl dX12_between_28 rfl ?_
  refine r_aload_n rfl dX12_between_29 rfl ?_
  refine r_getv 23 rfl dX12_between_30 (show 2 ≤ 420 ∧ 420 < 434 by decide) f72 fl_X12_48 rfl ?_
  refine cl_X12_174 rfl rfl dX12_between_33 (show 2 ≤ 420 ∧ 420 < 434 by decide).1 (show 2 ≤ 420 ∧ 420 < 434 by decide).2 f72 (Nat.le_of_ble_eq_true rfl) (z_X12_checks hS64 f72 hc hm f68 f70 f71 f66 (fun p hp => (bk0 hp).trans (hP p hp))) ?_
  rintro _ h73 _ ⟨rfl, e74, rfl⟩
  replace e74 := e74.symm
  subst e74
  refine r_goto (pc' := 41) rfl dX12_between_36 ?_
  exact r_ret dX12_between_41 (rt_i rfl) ⟨rfl, hS64, hF67, rfl, f72⟩
set_option maxRecDepth 20000 in
set_option maxHeartbeats 1000000 in
theorem z_btw_z {xs : Nat → Int32} {L d : Nat} {h : ev_H} {tr : Int64} {th ty nx tk pl va fa ss wg : Int32} {c m w : Nat} {G : Nat → Int32} {Y T O1 T1 : Nat → Int64} (hS : SH h) (hc : c ≤ 16) (hm : m ≤ 24) (hw : w < 3) (h5 : h 420 = .inr (12, [.int th, .long tr, .ref 421, .int ty, .int nx, .int tk, .int pl, .int va, .int fa, .int (nI c), .int (nI m), .int ss, .int wg, .ref 422, .ref 423, .ref 424, .ref 425, .ref 426, .ref 427, .ref 428, .ref 429, .ref 430, .ref 431, .ref 432, .ref 433])) (h22 : h 422 = .inl (0, 240, .inl G)) (h26 : h 426 = .inl (1, 480, .inr (.inl Y))) (h27 : h 427 = .inl (1, 4, .inr (.inl O1))) (h28 : h 428 = .inl (1, 4, .inr (.inl T1))) (h32 : h 432 = .inl (1, 4, .inr (.inl T))) (he : enM G (c + m) 0 = (-9)) : EV xs L (d + 3) 0 0 M_X12_between 434 h 0 [some (.ref 420), some (.int (nI w))] [] (fun sz' h' r => sz' = 434 ∧ SH h' ∧ KM [420, 432] h h' ∧ r = [.int (-2)] ∧ h' 420 = c420 0 tr ty nx tk pl va fa (nI c) (nI m) ss wg) := by
  refine r_aload_n rfl dX12_between_0 rfl ?_
  refine r_iconst (v := 0) rfl dX12_between_1 (by decide) ?_
  refine e_put 0 (fs' := [.int 0, .long tr, .ref 421, .int ty, .int nx, .int tk, .int pl, .int va, .int fa, .int (nI c), .int (nI m), .int ss, .int wg, .ref 422, .ref 423, .ref 424, .ref 425, .ref 426, .ref 427, .ref 428, .ref 429, .ref 430, .ref 431, .ref 432, .ref 433]) rfl dX12_between_2 (show 2 ≤ 420 ∧ 420 < 434 by decide) hS (KM_rf (Mod := [420, 432]) h) (by decide) h5 (fp_X12_57 rfl _) (Nat.le_of_ble_eq_true rfl) rfl (fun h51 hS52 hF53 hN54 f55 => ?_)
  have f56 : h51 422 = .inl (0, 240, .inl G) := (hN54 422 (by decide)).trans h22
  have f57 : h51 426 = .inl (1, 480, .inr (.inl Y)) := (hN54 426 (by decide)).trans h26
  have f58 : h51 427 = .inl (1, 4, .inr (.inl O1)) := (hN54 427 (by decide)).trans h27
  have f59 : h51 428 = .inl (1, 4, .inr (.inl T1)) := (hN54 428 (by decide)).trans h28
  have f60 : h51 432 = .inl (1, 4, .inr (.inl T)) := (hN54 432 (by decide)).trans h32
  refine r_iload_n rfl dX12_between_5 rfl ?_
  refine cl_X12_164 rfl rfl dX12_between_6 (Nat.le_of_ble_eq_true rfl) (s_X12_isWay hS52) ?_
  rintro _ h61 _ ⟨rfl, e62, rfl⟩
  replace e62 := e62.symm
  subst e62
  refine r_if_ne (tgt := 16) rfl rfl dX12_between_9 (fun _ => ?_) (fun zc => absurd zc (inR3 hw))
  refine r_aload_n rfl dX12_between_16 rfl ?_
  refine r_iload_n rfl dX12_between_17 rfl ?_
  refine r_aload_n rfl dX12_between_18 rfl ?_
  refine r_getv 23 rfl dX12_between_19 (show 2 ≤ 420 ∧ 420 < 434 by decide) f55 fl_X12_48 rfl ?_
  refine cl_X12_170 rfl rfl dX12_between_22 (show 2 ≤ 420 ∧ 420 < 434 by decide).1 (show 2 ≤ 420 ∧ 420 < 434 by decide).2 f55 (Nat.le_of_ble_eq_true rfl) (z_X12_takes_z hS52 hc hm hw f55 f56 f57 f60 he) ?_
  rintro _ h63 _ ⟨rfl, hS64, hk65, f66, rfl⟩
  have hF67 := KM_tr hF53 (KM_sb (by decide) hk65)
  have f68 : h63 422 = .inl (0, 240, .inl G) := (hk65 422 (by decide)).trans f56
  have f69 : h63 426 = .inl (1, 480, .inr (.inl Y)) := (hk65 426 (by decide)).trans f57
  have f70 : h63 427 = .inl (1, 4, .inr (.inl O1)) := (hk65 427 (by decide)).trans f58
  have f71 : h63 428 = .inl (1, 4, .inr (.inl T1)) := (hk65 428 (by decide)).trans f59
  have f72 : h63 420 = .inr (12, [.int 0, .long tr, .ref 421, .int ty, .int nx, .int tk, .int pl, .int va, .int fa, .int (nI c), .int (nI m), .int ss, .int wg, .ref 422, .ref 423, .ref 424, .ref 425, .ref 426, .ref 427, .ref 428, .ref 429, .ref 430, .ref 431, .ref 432, .ref 433]) := (hk65 420 (by decide)).trans f55
  refine r_if_eq (tgt := 39) rfl rfl dX12_between_25 (fun _ => ?_) (fun zc => absurd zc (by decide))
  refine r_bipush (v := (-2)) rfl dX12_between_39 (by decide) ?_
  exact r_ret dX12_between_41 (rt_i rfl) ⟨rfl, hS64, hF67, rfl, f72⟩
set_option maxRecDepth 20000 in
set_option maxHeartbeats 1000000 in
theorem z_btw_o {xs : Nat → Int32} {L d : Nat} {h : ev_H} {tr : Int64} {th ty nx tk pl va fa ss wg x : Int32} {c m : Nat} (hS : SH h) (h5 : h 420 = .inr (12, [.int th, .long tr, .ref 421, .int ty, .int nx, .int tk, .int pl, .int va, .int fa, .int (nI c), .int (nI m), .int ss, .int wg, .ref 422, .ref 423, .ref 424, .ref 425, .ref 426, .ref 427, .ref 428, .ref 429, .ref 430, .ref 431, .ref 432, .ref 433])) (hx : inR x 0 2 = 0) : EV xs L (d + 3) 0 0 M_X12_between 434 h 0 [some (.ref 420), some (.int x)] [] (fun sz' h' r => sz' = 434 ∧ SH h' ∧ KM [420, 432] h h' ∧ r = [.int (-1)] ∧ h' 420 = c420 0 tr ty nx tk pl va fa (nI c) (nI m) ss wg) := by
  refine r_aload_n rfl dX12_between_0 rfl ?_
  refine r_iconst (v := 0) rfl dX12_between_1 (by decide) ?_
  refine e_put 0 (fs' := [.int 0, .long tr, .ref 421, .int ty, .int nx, .int tk, .int pl, .int va, .int fa, .int (nI c), .int (nI m), .int ss, .int wg, .ref 422, .ref 423, .ref 424, .ref 425, .ref 426, .ref 427, .ref 428, .ref 429, .ref 430, .ref 431, .ref 432, .ref 433]) rfl dX12_between_2 (show 2 ≤ 420 ∧ 420 < 434 by decide) hS (KM_rf (Mod := [420, 432]) h) (by decide) h5 (fp_X12_57 rfl _) (Nat.le_of_ble_eq_true rfl) rfl (fun h51 hS52 hF53 hN54 f55 => ?_)
  refine r_iload_n rfl dX12_between_5 rfl ?_
  refine cl_X12_164 rfl rfl dX12_between_6 (Nat.le_of_ble_eq_true rfl) (s_X12_isWay hS52) ?_
  rintro _ h56 _ ⟨rfl, e57, rfl⟩
  replace e57 := e57.symm
  subst e57
  refine r_if_ne (tgt := 16) rfl rfl dX12_between_9 (fun zc => absurd zc (fun z => z hx)) (fun _ => ?_)
  refine r_iconst (v := (-1)) rfl dX12_between_12 (by decide) ?_
  refine r_goto (pc' := 41) rfl dX12_between_13 ?_
  exact r_ret dX12_between_41 (rt_i rfl) ⟨rfl, hS52, hF53, rfl, f55⟩
