set_option maxRecDepth 20000 in
set_option maxHeartbeats 1000000 in
theorem zz_cb2_z {xs : Nat → Int32} {L d : Nat} {h : ev_H} {h0 : ev_H} {th : Int32} {tr : Int64} {nx tk pl va : Int32} {c : Nat} {G : Nat → Int32} {H Y T A1 A2 S0 W0 : Nat → Int64} {l : Nat} {k : Nat} (hS : SH h) (hc : c ≤ 16) (hl : l < 256) (hsl : shM G c = nI l) (hF : KM [420, 425, 426, 427, 428, 429, 430, 431] h0 h) (h5 : h 420 = .inr (12, [.int th, .long tr, .ref 421, .int 0, .int nx, .int tk, .int pl, .int va, .int (-1), .int (nI c), .int 0, .int 0, .int (-9), .ref 422, .ref 423, .ref 424, .ref 425, .ref 426, .ref 427, .ref 428, .ref 429, .ref 430, .ref 431, .ref 432, .ref 433])) (h22 : h 422 = .inl (0, 240, .inl G)) (h25 : h 425 = .inl (1, 160, .inr (.inl (hdG G H (k))))) (h26 : h 426 = .inl (1, 480, .inr (.inl (bgG G c Y (k))))) (h31 : h 431 = .inl (1, 4, .inr (.inl T))) (h27 : h 427 = .inl (1, 4, .inr (.inl A1))) (h28 : h 428 = .inl (1, 4, .inr (.inl A2))) (h29 : h 429 = .inl (1, 4, .inr (.inl S0))) (h30 : h 430 = .inl (1, 4, .inr (.inl W0))) (hk : k = c) : EV xs L (d + 3) 0 0 M_X12_clauses 434 h 234 [some (.ref 420), some (.int (nI c)), some (.int (nI k))] [] (fun sz' h' r => sz' = 434 ∧ SH h' ∧ KM [420, 425, 426, 427, 428, 429, 430, 431] h0 h' ∧ r = [.int (nI c)] ∧ h' 420 = c420 th tr 0 nx tk pl va (-1) (nI c) 0 0 (-9) ∧ (∃ H' Y', h' 425 = cL 160 H' ∧ HV c G H' ∧ h' 426 = cL 480 Y' ∧ SV c c G Y') ∧ BR G c l h') := by
  refine r_iload_n rfl dX12_clauses_234 rfl ?_
  refine r_aload_n rfl dX12_clauses_235 rfl ?_
  refine r_getv 9 rfl dX12_clauses_236 (show 2 ≤ 420 ∧ 420 < 434 by decide) h5 fl_X12_112 rfl ?_
  refine r_icmp_ge (tgt := 258) rfl rfl dX12_clauses_239 (fun _ => ?_) (fun zc => absurd (show nI (c) ≤ nI k from nI_le (a := c) (b := k) (by omega) (by omega)) zc)
  refine r_aload_n rfl dX12_clauses_258 rfl ?_
  refine cl_X12_54 rfl rfl dX12_clauses_259 (show 2 ≤ 420 ∧ 420 < 434 by decide).1 (show 2 ≤ 420 ∧ 420 < 434 by decide).2 h5 (Nat.le_of_ble_eq_true rfl) (z_X12_bounds (m := 0) hS hc (by decide) hl (by rw [← hk]; exact hdG_hv G H k) hsl h5 h22 h25 h27 h28 h29 h30) ?_
  rintro _ h51 _ ⟨rfl, hS52, hk53, br54, rfl⟩
  have hF55 := KM_tr hF (KM_sb (by decide) hk53)
  have f56 : h51 420 = .inr (12, [.int th, .long tr, .ref 421, .int 0, .int nx, .int tk, .int pl, .int va, .int (-1), .int (nI c), .int 0, .int 0, .int (-9), .ref 422, .ref 423, .ref 424, .ref 425, .ref 426, .ref 427, .ref 428, .ref 429, .ref 430, .ref 431, .ref 432, .ref 433]) := (hk53 420 (by decide)).trans h5
  have f57 : h51 422 = .inl (0, 240, .inl G) := (hk53 422 (by decide)).trans h22
  have f58 : h51 425 = .inl (1, 160, .inr (.inl (hdG G H (k)))) := (hk53 425 (by decide)).trans h25
  have f59 : h51 426 = .inl (1, 480, .inr (.inl (bgG G c Y (k)))) := (hk53 426 (by decide)).trans h26
  have f60 : h51 431 = .inl (1, 4, .inr (.inl T)) := (hk53 431 (by decide)).trans h31
  refine r_aload_n rfl dX12_clauses_262 rfl ?_
  refine r_getv 9 rfl dX12_clauses_263 (show 2 ≤ 420 ∧ 420 < 434 by decide) f56 fl_X12_112 rfl ?_
  subst hk
  exact r_ret dX12_clauses_266 (rt_i rfl) ⟨rfl, hS52, hF55, rfl, f56, ⟨_, _, f58, hdG_hv G H k, f59, bgG_sv hc⟩, br54⟩
set_option maxRecDepth 20000 in
set_option maxHeartbeats 1000000 in
theorem zz_cb2_s {xs : Nat → Int32} {L d : Nat} {h : ev_H} {h0 : ev_H} {th : Int32} {tr : Int64} {nx tk pl va : Int32} {c : Nat} {G : Nat → Int32} {H Y T A1 A2 S0 W0 : Nat → Int64} {l : Nat} {k : Nat} (hS : SH h) (hc : c ≤ 16) (hl : l < 256) (hsl : shM G c = nI l) (hF : KM [420, 425, 426, 427, 428, 429, 430, 431] h0 h) (h5 : h 420 = .inr (12, [.int th, .long tr, .ref 421, .int 0, .int nx, .int tk, .int pl, .int va, .int (-1), .int (nI c), .int 0, .int 0, .int (-9), .ref 422, .ref 423, .ref 424, .ref 425, .ref 426, .ref 427, .ref 428, .ref 429, .ref 430, .ref 431, .ref 432, .ref 433])) (h22 : h 422 = .inl (0, 240, .inl G)) (h25 : h 425 = .inl (1, 160, .inr (.inl (hdG G H (k))))) (h26 : h 426 = .inl (1, 480, .inr (.inl (bgG G c Y (k))))) (h31 : h 431 = .inl (1, 4, .inr (.inl T))) (h27 : h 427 = .inl (1, 4, .inr (.inl A1))) (h28 : h 428 = .inl (1, 4, .inr (.inl A2))) (h29 : h 429 = .inl (1, 4, .inr (.inl S0))) (h30 : h 430 = .inl (1, 4, .inr (.inl W0))) (hk : k < c) (ih : ∀ (h' : ev_H), SH h' → KM [420, 425, 426, 427, 428, 429, 430, 431] h0 h' → h' 420 = .inr (12, [.int th, .long tr, .ref 421, .int 0, .int nx, .int tk, .int pl, .int va, .int (-1), .int (nI c), .int 0, .int 0, .int (-9), .ref 422, .ref 423, .ref 424, .ref 425, .ref 426, .ref 427, .ref 428, .ref 429, .ref 430, .ref 431, .ref 432, .ref 433]) → h' 422 = .inl (0, 240, .inl G) → h' 425 = .inl (1, 160, .inr (.inl (hdG G H (k + 1)))) → h' 426 = .inl (1, 480, .inr (.inl (bgG G c Y (k + 1)))) → h' 431 = .inl (1, 4, .inr (.inl T)) → h' 427 = .inl (1, 4, .inr (.inl A1)) → h' 428 = .inl (1, 4, .inr (.inl A2)) → h' 429 = .inl (1, 4, .inr (.inl S0)) → h' 430 = .inl (1, 4, .inr (.inl W0)) → EV xs L (d + 3) 0 0 M_X12_clauses 434 h' 234 [some (.ref 420), some (.int (nI c)), some (.int (nI (k + 1)))] [] (fun sz' h' r => sz' = 434 ∧ SH h' ∧ KM [420, 425, 426, 427, 428, 429, 430, 431] h0 h' ∧ r = [.int (nI c)] ∧ h' 420 = c420 th tr 0 nx tk pl va (-1) (nI c) 0 0 (-9) ∧ (∃ H' Y', h' 425 = cL 160 H' ∧ HV c G H' ∧ h' 426 = cL 480 Y' ∧ SV c c G Y') ∧ BR G c l h')) : EV xs L (d + 3) 0 0 M_X12_clauses 434 h 234 [some (.ref 420), some (.int (nI c)), some (.int (nI k))] [] (fun sz' h' r => sz' = 434 ∧ SH h' ∧ KM [420, 425, 426, 427, 428, 429, 430, 431] h0 h' ∧ r = [.int (nI c)] ∧ h' 420 = c420 th tr 0 nx tk pl va (-1) (nI c) 0 0 (-9) ∧ (∃ H' Y', h' 425 = cL 160 H' ∧ HV c G H' ∧ h' 426 = cL 480 Y' ∧ SV c c G Y') ∧ BR G c l h') := by
  refine r_iload_n rfl dX12_clauses_234 rfl ?_
  refine r_aload_n rfl dX12_clauses_235 rfl ?_
  refine r_getv 9 rfl dX12_clauses_236 (show 2 ≤ 420 ∧ 420 < 434 by decide) h5 fl_X12_112 rfl ?_
  refine r_icmp_ge (tgt := 258) rfl rfl dX12_clauses_239 (fun zc => absurd zc (show ¬ nI (c) ≤ nI k from nI_ge (a := k) (b := c) (by omega) (by omega))) (fun _ => ?_)
  refine r_aload_n rfl dX12_clauses_242 rfl ?_
  refine r_iload_n rfl dX12_clauses_243 rfl ?_
  refine cl_X12_121 rfl rfl dX12_clauses_244 (show 2 ≤ 420 ∧ 420 < 434 by decide).1 (show 2 ≤ 420 ∧ 420 < 434 by decide).2 h5 (Nat.le_of_ble_eq_true rfl) (z_X12_holding (m := 0) (i := k) hS (by omega) h5 h22 h25) ?_
  rintro _ h51 _ ⟨rfl, hS52, hk53, f54, rfl⟩
  have hF55 := KM_tr hF (KM_sb (by decide) hk53)
  have f56 : h51 420 = .inr (12, [.int th, .long tr, .ref 421, .int 0, .int nx, .int tk, .int pl, .int va, .int (-1), .int (nI c), .int 0, .int 0, .int (-9), .ref 422, .ref 423, .ref 424, .ref 425, .ref 426, .ref 427, .ref 428, .ref 429, .ref 430, .ref 431, .ref 432, .ref 433]) := (hk53 420 (by decide)).trans h5
  have f57 : h51 422 = .inl (0, 240, .inl G) := (hk53 422 (by decide)).trans h22
  have f58 : h51 426 = .inl (1, 480, .inr (.inl (bgG G c Y (k)))) := (hk53 426 (by decide)).trans h26
  have f59 : h51 431 = .inl (1, 4, .inr (.inl T)) := (hk53 431 (by decide)).trans h31
  have f60 : h51 427 = .inl (1, 4, .inr (.inl A1)) := (hk53 427 (by decide)).trans h27
  have f61 : h51 428 = .inl (1, 4, .inr (.inl A2)) := (hk53 428 (by decide)).trans h28
  have f62 : h51 429 = .inl (1, 4, .inr (.inl S0)) := (hk53 429 (by decide)).trans h29
  have f63 : h51 430 = .inl (1, 4, .inr (.inl W0)) := (hk53 430 (by decide)).trans h30
  refine r_aload_n rfl dX12_clauses_247 rfl ?_
  refine r_iload_n rfl dX12_clauses_248 rfl ?_
  refine cl_X12_124 rfl rfl dX12_clauses_249 (show 2 ≤ 420 ∧ 420 < 434 by decide).1 (show 2 ≤ 420 ∧ 420 < 434 by decide).2 f56 (Nat.le_of_ble_eq_true rfl) (z_X12_beginning (m := 0) (i := k) hS52 f56 hc (by decide) (by omega) f57 f58) ?_
  rintro _ h64 _ ⟨rfl, hS65, hk66, f67, rfl⟩
  have hF68 := KM_tr hF55 (KM_sb (by decide) hk66)
  have f69 : h64 420 = .inr (12, [.int th, .long tr, .ref 421, .int 0, .int nx, .int tk, .int pl, .int va, .int (-1), .int (nI c), .int 0, .int 0, .int (-9), .ref 422, .ref 423, .ref 424, .ref 425, .ref 426, .ref 427, .ref 428, .ref 429, .ref 430, .ref 431, .ref 432, .ref 433]) := (hk66 420 (by decide)).trans f56
  have f70 : h64 422 = .inl (0, 240, .inl G) := (hk66 422 (by decide)).trans f57
  have f71 : h64 431 = .inl (1, 4, .inr (.inl T)) := (hk66 431 (by decide)).trans f59
  have f72 : h64 427 = .inl (1, 4, .inr (.inl A1)) := (hk66 427 (by decide)).trans f60
  have f73 : h64 428 = .inl (1, 4, .inr (.inl A2)) := (hk66 428 (by decide)).trans f61
  have f74 : h64 429 = .inl (1, 4, .inr (.inl S0)) := (hk66 429 (by decide)).trans f62
  have f75 : h64 430 = .inl (1, 4, .inr (.inl W0)) := (hk66 430 (by decide)).trans f63
  have f76 : h64 425 = .inl (1, 160, .inr (.inl (hwR (hdG G H (k)) k (soB (G (6 * k)) (G (6 * k + 1))) 256))) := (hk66 425 (by decide)).trans f54
  refine r_iinc (y := nI (k + 1)) (ls' := [some (.ref 420), some (.int (nI c)), some (.int (nI (k + 1)))]) rfl dX12_clauses_252 rfl (nI_1 k) (Nat.le_of_ble_eq_true rfl) rfl ?_
  refine r_goto (pc' := 234) rfl dX12_clauses_255 ?_
  exact ih h64 hS65 hF68 f69 f70 f76 f67 f71 f72 f73 f74 f75
theorem zz_cb2 {xs : Nat → Int32} {L d : Nat} {h0 : ev_H} {th : Int32} {tr : Int64} {nx tk pl va : Int32} {c : Nat} {G : Nat → Int32} {H Y T A1 A2 S0 W0 : Nat → Int64} {l : Nat} (hc : c ≤ 16) (hl : l < 256) (hsl : shM G c = nI l) : ∀ (nn k : Nat) (h : ev_H), k + nn = c → SH h → KM [420, 425, 426, 427, 428, 429, 430, 431] h0 h → h 420 = .inr (12, [.int th, .long tr, .ref 421, .int 0, .int nx, .int tk, .int pl, .int va, .int (-1), .int (nI c), .int 0, .int 0, .int (-9), .ref 422, .ref 423, .ref 424, .ref 425, .ref 426, .ref 427, .ref 428, .ref 429, .ref 430, .ref 431, .ref 432, .ref 433]) → h 422 = .inl (0, 240, .inl G) → h 425 = .inl (1, 160, .inr (.inl (hdG G H (k)))) → h 426 = .inl (1, 480, .inr (.inl (bgG G c Y (k)))) → h 431 = .inl (1, 4, .inr (.inl T)) → h 427 = .inl (1, 4, .inr (.inl A1)) → h 428 = .inl (1, 4, .inr (.inl A2)) → h 429 = .inl (1, 4, .inr (.inl S0)) → h 430 = .inl (1, 4, .inr (.inl W0)) → EV xs L (d + 3) 0 0 M_X12_clauses 434 h 234 [some (.ref 420), some (.int (nI c)), some (.int (nI k))] [] (fun sz' h' r => sz' = 434 ∧ SH h' ∧ KM [420, 425, 426, 427, 428, 429, 430, 431] h0 h' ∧ r = [.int (nI c)] ∧ h' 420 = c420 th tr 0 nx tk pl va (-1) (nI c) 0 0 (-9) ∧ (∃ H' Y', h' 425 = cL 160 H' ∧ HV c G H' ∧ h' 426 = cL 480 Y' ∧ SV c c G Y') ∧ BR G c l h') := by
  intro nn
  induction nn with
  | zero => intro k h hk hS hF h5 h22 h25 h26 h31 h27 h28 h29 h30; exact zz_cb2_z hS hc hl hsl hF h5 h22 h25 h26 h31 h27 h28 h29 h30 (by omega)
  | succ nn ih => intro k h hk hS hF h5 h22 h25 h26 h31 h27 h28 h29 h30; exact zz_cb2_s hS hc hl hsl hF h5 h22 h25 h26 h31 h27 h28 h29 h30 (by omega) (fun h' q0 q1 q2 q3 q4 q5 q6 q7 q8 q9 q10 => ih (k + 1) h' (by omega) q0 q1 q2 q3 q4 q5 q6 q7 q8 q9 q10)
set_option maxRecDepth 20000 in
set_option maxHeartbeats 1000000 in
theorem zz_cb1_z {xs : Nat → Int32} {L d : Nat} {h : ev_H} {h0 : ev_H} {th : Int32} {tr : Int64} {nx tk pl va : Int32} {c : Nat} {G : Nat → Int32} {H Y T A1 A2 S0 W0 : Nat → Int64} {l : Nat} {k : Nat} (hS : SH h) (hc : c ≤ 16) (hl : l < 256) (hsl : shM G c = nI l) (hF : KM [420, 425, 426, 427, 428, 429, 430, 431] h0 h) (h5 : h 420 = .inr (12, [.int th, .long tr, .ref 421, .int 0, .int nx, .int tk, .int pl, .int va, .int (-1), .int (nI c), .int 0, .int 0, .int (-9), .ref 422, .ref 423, .ref 424, .ref 425, .ref 426, .ref 427, .ref 428, .ref 429, .ref 430, .ref 431, .ref 432, .ref 433])) (h22 : h 422 = .inl (0, 240, .inl G)) (h25 : h 425 = .inl (1, 160, .inr (.inl H))) (h26 : h 426 = .inl (1, 480, .inr (.inl Y))) (h31 : h 431 = .inl (1, 4, .inr (.inl (hzR T 0 (k))))) (h27 : h 427 = .inl (1, 4, .inr (.inl A1))) (h28 : h 428 = .inl (1, 4, .inr (.inl A2))) (h29 : h 429 = .inl (1, 4, .inr (.inl S0))) (h30 : h 430 = .inl (1, 4, .inr (.inl W0))) (hk : k = 4) : EV xs L (d + 3) 0 0 M_X12_clauses 434 h 214 [some (.ref 420), some (.int (nI c)), some (.int (nI k))] [] (fun sz' h' r => sz' = 434 ∧ SH h' ∧ KM [420, 425, 426, 427, 428, 429, 430, 431] h0 h' ∧ r = [.int (nI c)] ∧ h' 420 = c420 th tr 0 nx tk pl va (-1) (nI c) 0 0 (-9) ∧ (∃ H' Y', h' 425 = cL 160 H' ∧ HV c G H' ∧ h' 426 = cL 480 Y' ∧ SV c c G Y') ∧ BR G c l h') := by
  refine r_iload_n rfl dX12_clauses_214 rfl ?_
  refine r_iconst (v := 4) rfl dX12_clauses_215 (by decide) ?_
  refine r_icmp_ge (tgt := 232) rfl rfl dX12_clauses_216 (fun _ => ?_) (fun zc => absurd (show nI (4) ≤ nI k from nI_le (a := 4) (b := k) (by omega) (by omega)) zc)
  refine r_iconst (v := 0) rfl dX12_clauses_232 (by decide) ?_
  refine r_istore_n (ls' := [some (.ref 420), some (.int (nI c)), some (.int 0)]) rfl dX12_clauses_233 (Nat.le_of_ble_eq_true rfl) rfl ?_
  exact zz_cb2 hc hl hsl c 0 h (by omega) hS hF h5 h22 h25 h26 h31 h27 h28 h29 h30
set_option maxRecDepth 20000 in
set_option maxHeartbeats 1000000 in
theorem zz_cb1_s {xs : Nat → Int32} {L d : Nat} {h : ev_H} {h0 : ev_H} {th : Int32} {tr : Int64} {nx tk pl va : Int32} {c : Nat} {G : Nat → Int32} {H Y T A1 A2 S0 W0 : Nat → Int64} {l : Nat} {k : Nat} (hS : SH h) (hc : c ≤ 16) (hl : l < 256) (hsl : shM G c = nI l) (hF : KM [420, 425, 426, 427, 428, 429, 430, 431] h0 h) (h5 : h 420 = .inr (12, [.int th, .long tr, .ref 421, .int 0, .int nx, .int tk, .int pl, .int va, .int (-1), .int (nI c), .int 0, .int 0, .int (-9), .ref 422, .ref 423, .ref 424, .ref 425, .ref 426, .ref 427, .ref 428, .ref 429, .ref 430, .ref 431, .ref 432, .ref 433])) (h22 : h 422 = .inl (0, 240, .inl G)) (h25 : h 425 = .inl (1, 160, .inr (.inl H))) (h26 : h 426 = .inl (1, 480, .inr (.inl Y))) (h31 : h 431 = .inl (1, 4, .inr (.inl (hzR T 0 (k))))) (h27 : h 427 = .inl (1, 4, .inr (.inl A1))) (h28 : h 428 = .inl (1, 4, .inr (.inl A2))) (h29 : h 429 = .inl (1, 4, .inr (.inl S0))) (h30 : h 430 = .inl (1, 4, .inr (.inl W0))) (hk : k < 4) (ih : ∀ (h' : ev_H), SH h' → KM [420, 425, 426, 427, 428, 429, 430, 431] h0 h' → h' 420 = .inr (12, [.int th, .long tr, .ref 421, .int 0, .int nx, .int tk, .int pl, .int va, .int (-1), .int (nI c), .int 0, .int 0, .int (-9), .ref 422, .ref 423, .ref 424, .ref 425, .ref 426, .ref 427, .ref 428, .ref 429, .ref 430, .ref 431, .ref 432, .ref 433]) → h' 422 = .inl (0, 240, .inl G) → h' 425 = .inl (1, 160, .inr (.inl H)) → h' 426 = .inl (1, 480, .inr (.inl Y)) → h' 431 = .inl (1, 4, .inr (.inl (hzR T 0 (k + 1)))) → h' 427 = .inl (1, 4, .inr (.inl A1)) → h' 428 = .inl (1, 4, .inr (.inl A2)) → h' 429 = .inl (1, 4, .inr (.inl S0)) → h' 430 = .inl (1, 4, .inr (.inl W0)) → EV xs L (d + 3) 0 0 M_X12_clauses 434 h' 214 [some (.ref 420), some (.int (nI c)), some (.int (nI (k + 1)))] [] (fun sz' h' r => sz' = 434 ∧ SH h' ∧ KM [420, 425, 426, 427, 428, 429, 430, 431] h0 h' ∧ r = [.int (nI c)] ∧ h' 420 = c420 th tr 0 nx tk pl va (-1) (nI c) 0 0 (-9) ∧ (∃ H' Y', h' 425 = cL 160 H' ∧ HV c G H' ∧ h' 426 = cL 480 Y' ∧ SV c c G Y') ∧ BR G c l h')) : EV xs L (d + 3) 0 0 M_X12_clauses 434 h 214 [some (.ref 420), some (.int (nI c)), some (.int (nI k))] [] (fun sz' h' r => sz' = 434 ∧ SH h' ∧ KM [420, 425, 426, 427, 428, 429, 430, 431] h0 h' ∧ r = [.int (nI c)] ∧ h' 420 = c420 th tr 0 nx tk pl va (-1) (nI c) 0 0 (-9) ∧ (∃ H' Y', h' 425 = cL 160 H' ∧ HV c G H' ∧ h' 426 = cL 480 Y' ∧ SV c c G Y') ∧ BR G c l h') := by
  refine r_iload_n rfl dX12_clauses_214 rfl ?_
  refine r_iconst (v := 4) rfl dX12_clauses_215 (by decide) ?_
  refine r_icmp_ge (tgt := 232) rfl rfl dX12_clauses_216 (fun zc => absurd zc (show ¬ nI (4) ≤ nI k from nI_ge (a := k) (b := 4) (by omega) (by omega))) (fun _ => ?_)
  refine r_aload_n rfl dX12_clauses_219 rfl ?_
  refine r_getv 22 rfl dX12_clauses_220 (show 2 ≤ 420 ∧ 420 < 434 by decide) h5 fl_X12_45 rfl ?_
  refine r_iload_n rfl dX12_clauses_223 rfl ?_
  refine r_lconst (v := 0) rfl dX12_clauses_224 (by decide) ?_
  refine e_last (jn := k) rfl dX12_clauses_225 (show 2 ≤ 431 ∧ 431 < 434 by decide) hS hF (by decide) h31 (vp_in_nI (n := k) (by omega) (by decide)) (nI_clamp (n := k) (by omega)) (fun h51 hS52 hF53 hN54 f55 => ?_)
  have f56 : h51 420 = .inr (12, [.int th, .long tr, .ref 421, .int 0, .int nx, .int tk, .int pl, .int va, .int (-1), .int (nI c), .int 0, .int 0, .int (-9), .ref 422, .ref 423, .ref 424, .ref 425, .ref 426, .ref 427, .ref 428, .ref 429, .ref 430, .ref 431, .ref 432, .ref 433]) := (hN54 420 (by decide)).trans h5
  have f57 : h51 422 = .inl (0, 240, .inl G) := (hN54 422 (by decide)).trans h22
  have f58 : h51 425 = .inl (1, 160, .inr (.inl H)) := (hN54 425 (by decide)).trans h25
  have f59 : h51 426 = .inl (1, 480, .inr (.inl Y)) := (hN54 426 (by decide)).trans h26
  have f60 : h51 427 = .inl (1, 4, .inr (.inl A1)) := (hN54 427 (by decide)).trans h27
  have f61 : h51 428 = .inl (1, 4, .inr (.inl A2)) := (hN54 428 (by decide)).trans h28
  have f62 : h51 429 = .inl (1, 4, .inr (.inl S0)) := (hN54 429 (by decide)).trans h29
  have f63 : h51 430 = .inl (1, 4, .inr (.inl W0)) := (hN54 430 (by decide)).trans h30
  refine r_iinc (y := nI (k + 1)) (ls' := [some (.ref 420), some (.int (nI c)), some (.int (nI (k + 1)))]) rfl dX12_clauses_226 rfl (nI_1 k) (Nat.le_of_ble_eq_true rfl) rfl ?_
  refine r_goto (pc' := 214) rfl dX12_clauses_229 ?_
  exact ih h51 hS52 hF53 f56 f57 f58 f59 (by rw [← hzR_s, show 4 * 0 + k = k by omega]; exact f55) f60 f61 f62 f63
theorem zz_cb1 {xs : Nat → Int32} {L d : Nat} {h0 : ev_H} {th : Int32} {tr : Int64} {nx tk pl va : Int32} {c : Nat} {G : Nat → Int32} {H Y T A1 A2 S0 W0 : Nat → Int64} {l : Nat} (hc : c ≤ 16) (hl : l < 256) (hsl : shM G c = nI l) : ∀ (nn k : Nat) (h : ev_H), k + nn = 4 → SH h → KM [420, 425, 426, 427, 428, 429, 430, 431] h0 h → h 420 = .inr (12, [.int th, .long tr, .ref 421, .int 0, .int nx, .int tk, .int pl, .int va, .int (-1), .int (nI c), .int 0, .int 0, .int (-9), .ref 422, .ref 423, .ref 424, .ref 425, .ref 426, .ref 427, .ref 428, .ref 429, .ref 430, .ref 431, .ref 432, .ref 433]) → h 422 = .inl (0, 240, .inl G) → h 425 = .inl (1, 160, .inr (.inl H)) → h 426 = .inl (1, 480, .inr (.inl Y)) → h 431 = .inl (1, 4, .inr (.inl (hzR T 0 (k)))) → h 427 = .inl (1, 4, .inr (.inl A1)) → h 428 = .inl (1, 4, .inr (.inl A2)) → h 429 = .inl (1, 4, .inr (.inl S0)) → h 430 = .inl (1, 4, .inr (.inl W0)) → EV xs L (d + 3) 0 0 M_X12_clauses 434 h 214 [some (.ref 420), some (.int (nI c)), some (.int (nI k))] [] (fun sz' h' r => sz' = 434 ∧ SH h' ∧ KM [420, 425, 426, 427, 428, 429, 430, 431] h0 h' ∧ r = [.int (nI c)] ∧ h' 420 = c420 th tr 0 nx tk pl va (-1) (nI c) 0 0 (-9) ∧ (∃ H' Y', h' 425 = cL 160 H' ∧ HV c G H' ∧ h' 426 = cL 480 Y' ∧ SV c c G Y') ∧ BR G c l h') := by
  intro nn
  induction nn with
  | zero => intro k h hk hS hF h5 h22 h25 h26 h31 h27 h28 h29 h30; exact zz_cb1_z hS hc hl hsl hF h5 h22 h25 h26 h31 h27 h28 h29 h30 (by omega)
  | succ nn ih => intro k h hk hS hF h5 h22 h25 h26 h31 h27 h28 h29 h30; exact zz_cb1_s hS hc hl hsl hF h5 h22 h25 h26 h31 h27 h28 h29 h30 (by omega) (fun h' q0 q1 q2 q3 q4 q5 q6 q7 q8 q9 q10 => ih (k + 1) h' (by omega) q0 q1 q2 q3 q4 q5 q6 q7 q8 q9 q10)
set_option maxRecDepth 20000 in
set_option maxHeartbeats 1000000 in
theorem zz_clauses_b {xs : Nat → Int32} {L d : Nat} {h : ev_H} {th : Int32} {tr : Int64} {ty nx tk pl va cl md ss wg : Int32} {c : Nat} {G : Nat → Int32} {H Y T A1 A2 S0 W0 : Nat → Int64} {l : Nat} {u : Option Value} (hS : SH h) (h5 : h 420 = c420 th tr ty nx tk pl va (-1) cl md ss wg) (hc : c ≤ 16) (hl : l < 256) (hsl : shM G c = nI l) (h22 : h 422 = cI 240 G) (h25 : h 425 = cL 160 H) (h26 : h 426 = cL 480 Y) (h31 : h 431 = cL 4 T) (h27 : h 427 = cL 4 A1) (h28 : h 428 = cL 4 A2) (h29 : h 429 = cL 4 S0) (h30 : h 430 = cL 4 W0) : EV xs L (d + 3) 0 0 M_X12_clauses 434 h 186 [some (.ref 420), some (.int (nI c)), u] [] (fun sz' h' r => sz' = 434 ∧ SH h' ∧ KM [420, 425, 426, 427, 428, 429, 430, 431] h h' ∧ r = [.int (nI c)] ∧ h' 420 = c420 th tr 0 nx tk pl va (-1) (nI c) 0 0 (-9) ∧ (∃ H' Y', h' 425 = cL 160 H' ∧ HV c G H' ∧ h' 426 = cL 480 Y' ∧ SV c c G Y') ∧ BR G c l h') := by
  refine r_aload_n rfl dX12_clauses_186 rfl ?_
  refine r_iload_n rfl dX12_clauses_187 rfl ?_
  refine e_put 9 (fs' := [.int th, .long tr, .ref 421, .int ty, .int nx, .int tk, .int pl, .int va, .int (-1), .int (nI c), .int md, .int ss, .int wg, .ref 422, .ref 423, .ref 424, .ref 425, .ref 426, .ref 427, .ref 428, .ref 429, .ref 430, .ref 431, .ref 432, .ref 433]) rfl dX12_clauses_188 (show 2 ≤ 420 ∧ 420 < 434 by decide) hS (KM_rf (Mod := [420, 425, 426, 427, 428, 429, 430, 431]) h) (by decide) h5 (fp_X12_112 rfl _) (Nat.le_of_ble_eq_true rfl) rfl (fun h51 hS52 hF53 hN54 f55 => ?_)
  have f56 : h51 422 = .inl (0, 240, .inl G) := (hN54 422 (by decide)).trans h22
  have f57 : h51 425 = .inl (1, 160, .inr (.inl H)) := (hN54 425 (by decide)).trans h25
  have f58 : h51 426 = .inl (1, 480, .inr (.inl Y)) := (hN54 426 (by decide)).trans h26
  have f59 : h51 431 = .inl (1, 4, .inr (.inl T)) := (hN54 431 (by decide)).trans h31
  have f60 : h51 427 = .inl (1, 4, .inr (.inl A1)) := (hN54 427 (by decide)).trans h27
  have f61 : h51 428 = .inl (1, 4, .inr (.inl A2)) := (hN54 428 (by decide)).trans h28
  have f62 : h51 429 = .inl (1, 4, .inr (.inl S0)) := (hN54 429 (by decide)).trans h29
  have f63 : h51 430 = .inl (1, 4, .inr (.inl W0)) := (hN54 430 (by decide)).trans h30
  refine r_aload_n rfl dX12_clauses_191 rfl ?_
  refine r_iconst (v := 0) rfl dX12_clauses_192 (by decide) ?_
  refine e_put 10 (fs' := [.int th, .long tr, .ref 421, .int ty, .int nx, .int tk, .int pl, .int va, .int (-1), .int (nI c), .int 0, .int ss, .int wg, .ref 422, .ref 423, .ref 424, .ref 425, .ref 426, .ref 427, .ref 428, .ref 429, .ref 430, .ref 431, .ref 432, .ref 433]) rfl dX12_clauses_193 (show 2 ≤ 420 ∧ 420 < 434 by decide) hS52 hF53 (by decide) f55 (fp_X12_115 rfl _) (Nat.le_of_ble_eq_true rfl) rfl (fun h64 hS65 hF66 hN67 f68 => ?_)
  have f69 : h64 422 = .inl (0, 240, .inl G) := (hN67 422 (by decide)).trans f56
  have f70 : h64 425 = .inl (1, 160, .inr (.inl H)) := (hN67 425 (by decide)).trans f57
  have f71 : h64 426 = .inl (1, 480, .inr (.inl Y)) := (hN67 426 (by decide)).trans f58
  have f72 : h64 431 = .inl (1, 4, .inr (.inl T)) := (hN67 431 (by decide)).trans f59
  have f73 : h64 427 = .inl (1, 4, .inr (.inl A1)) := (hN67 427 (by decide)).trans f60
  have f74 : h64 428 = .inl (1, 4, .inr (.inl A2)) := (hN67 428 (by decide)).trans f61
  have f75 : h64 429 = .inl (1, 4, .inr (.inl S0)) := (hN67 429 (by decide)).trans f62
  have f76 : h64 430 = .inl (1, 4, .inr (.inl W0)) := (hN67 430 (by decide)).trans f63
  refine r_aload_n rfl dX12_clauses_196 rfl ?_
  refine r_iconst (v := 0) rfl dX12_clauses_197 (by decide) ?_
  refine e_put 11 (fs' := [.int th, .long tr, .ref 421, .int ty, .int nx, .int tk, .int pl, .int va, .int (-1), .int (nI c), .int 0, .int 0, .int wg, .ref 422, .ref 423, .ref 424, .ref 425, .ref 426, .ref 427, .ref 428, .ref 429, .ref 430, .ref 431, .ref 432, .ref 433]) rfl dX12_clauses_198 (show 2 ≤ 420 ∧ 420 < 434 by decide) hS65 hF66 (by decide) f68 (fp_X12_118 rfl _) (Nat.le_of_ble_eq_true rfl) rfl (fun h77 hS78 hF79 hN80 f81 => ?_)
  have f82 : h77 422 = .inl (0, 240, .inl G) := (hN80 422 (by decide)).trans f69
  have f83 : h77 425 = .inl (1, 160, .inr (.inl H)) := (hN80 425 (by decide)).trans f70
  have f84 : h77 426 = .inl (1, 480, .inr (.inl Y)) := (hN80 426 (by decide)).trans f71
  have f85 : h77 431 = .inl (1, 4, .inr (.inl T)) := (hN80 431 (by decide)).trans f72
  have f86 : h77 427 = .inl (1, 4, .inr (.inl A1)) := (hN80 427 (by decide)).trans f73
  have f87 : h77 428 = .inl (1, 4, .inr (.inl A2)) := (hN80 428 (by decide)).trans f74
  have f88 : h77 429 = .inl (1, 4, .inr (.inl S0)) := (hN80 429 (by decide)).trans f75
  have f89 : h77 430 = .inl (1, 4, .inr (.inl W0)) := (hN80 430 (by decide)).trans f76
  refine r_aload_n rfl dX12_clauses_201 rfl ?_
  refine r_bipush (v := (-9)) rfl dX12_clauses_202 (by decide) ?_
  refine e_put 12 (fs' := [.int th, .long tr, .ref 421, .int ty, .int nx, .int tk, .int pl, .int va, .int (-1), .int (nI c), .int 0, .int 0, .int (-9), .ref 422, .ref 423, .ref 424, .ref 425, .ref 426, .ref 427, .ref 428, .ref 429, .ref 430, .ref 431, .ref 432, .ref 433]) rfl dX12_clauses_204 (show 2 ≤ 420 ∧ 420 < 434 by decide) hS78 hF79 (by decide) f81 (fp_X12_13 rfl _) (Nat.le_of_ble_eq_true rfl) rfl (fun h90 hS91 hF92 hN93 f94 => ?_)
  have f95 : h90 422 = .inl (0, 240, .inl G) := (hN93 422 (by decide)).trans f82
  have f96 : h90 425 = .inl (1, 160, .inr (.inl H)) := (hN93 425 (by decide)).trans f83
  have f97 : h90 426 = .inl (1, 480, .inr (.inl Y)) := (hN93 426 (by decide)).trans f84
  have f98 : h90 431 = .inl (1, 4, .inr (.inl T)) := (hN93 431 (by decide)).trans f85
  have f99 : h90 427 = .inl (1, 4, .inr (.inl A1)) := (hN93 427 (by decide)).trans f86
  have f100 : h90 428 = .inl (1, 4, .inr (.inl A2)) := (hN93 428 (by decide)).trans f87
  have f101 : h90 429 = .inl (1, 4, .inr (.inl S0)) := (hN93 429 (by decide)).trans f88
  have f102 : h90 430 = .inl (1, 4, .inr (.inl W0)) := (hN93 430 (by decide)).trans f89
  refine r_aload_n rfl dX12_clauses_207 rfl ?_
  refine r_iconst (v := 0) rfl dX12_clauses_208 (by decide) ?_
  refine e_put 3 (fs' := [.int th, .long tr, .ref 421, .int 0, .int nx, .int tk, .int pl, .int va, .int (-1), .int (nI c), .int 0, .int 0, .int (-9), .ref 422, .ref 423, .ref 424, .ref 425, .ref 426, .ref 427, .ref 428, .ref 429, .ref 430, .ref 431, .ref 432, .ref 433]) rfl dX12_clauses_209 (show 2 ≤ 420 ∧ 420 < 434 by decide) hS91 hF92 (by decide) f94 (fp_X12_64 rfl _) (Nat.le_of_ble_eq_true rfl) rfl (fun h103 hS104 hF105 hN106 f107 => ?_)
  have f108 : h103 422 = .inl (0, 240, .inl G) := (hN106 422 (by decide)).trans f95
  have f109 : h103 425 = .inl (1, 160, .inr (.inl H)) := (hN106 425 (by decide)).trans f96
  have f110 : h103 426 = .inl (1, 480, .inr (.inl Y)) := (hN106 426 (by decide)).trans f97
  have f111 : h103 431 = .inl (1, 4, .inr (.inl T)) := (hN106 431 (by decide)).trans f98
  have f112 : h103 427 = .inl (1, 4, .inr (.inl A1)) := (hN106 427 (by decide)).trans f99
  have f113 : h103 428 = .inl (1, 4, .inr (.inl A2)) := (hN106 428 (by decide)).trans f100
  have f114 : h103 429 = .inl (1, 4, .inr (.inl S0)) := (hN106 429 (by decide)).trans f101
  have f115 : h103 430 = .inl (1, 4, .inr (.inl W0)) := (hN106 430 (by decide)).trans f102
  refine r_iconst (v := 0) rfl dX12_clauses_212 (by decide) ?_
  refine r_istore_n (ls' := [some (.ref 420), some (.int (nI c)), some (.int 0)]) rfl dX12_clauses_213 (Nat.le_of_ble_eq_true rfl) rfl ?_
  exact zz_cb1 hc hl hsl 4 0 h103 rfl hS104 hF105 f107 f108 f109 f110 (by rw [hzR_0]; exact f111) f112 f113 f114 f115
set_option maxRecDepth 20000 in
set_option maxHeartbeats 1000000 in
theorem zz_ca_z {xs : Nat → Int32} {L d : Nat} {h : ev_H} {h0 : ev_H} {k : Nat} {D G : Nat → Int32} {th : Int32} {tr : Int64} {ty nx tk pl va cl md ss wg : Int32} {c : Nat} {H Y T A1 A2 S0 W0 : Nat → Int64} {l : Nat} (hS : SH h) (hc : c ≤ 16) (hl : l < 256) (hsl : shM (dG D) c = nI l) (hF : KM [420, 422, 425, 426, 427, 428, 429, 430, 431] h0 h) (h5 : h 420 = c420 th tr ty nx tk pl va (-1) cl md ss wg) (h22 : h 422 = cI 240 G) (h23 : h 423 = cI 48 D) (h25 : h 425 = cL 160 H) (h26 : h 426 = cL 480 Y) (h31 : h 431 = cL 4 T) (h27 : h 427 = cL 4 A1) (h28 : h 428 = cL 4 A2) (h29 : h 429 = cL 4 S0) (h30 : h 430 = cL 4 W0) (hG : ∀ x, x < 6 * k → G x = dG D x) (hk : k = c) : EV xs L (d + 3) 0 0 M_X12_clauses 434 h 77 [some (.ref 420), some (.int (nI c)), some (.int (nI k))] [] (fun sz' h' r => sz' = 434 ∧ SH h' ∧ KM [420, 422, 425, 426, 427, 428, 429, 430, 431] h0 h' ∧ r = [.int (nI c)] ∧ h' 420 = c420 th tr 0 nx tk pl va (-1) (nI c) 0 0 (-9) ∧ ∃ G', h' 422 = cI 240 G' ∧ (∀ x, x < 6 * c → G' x = dG D x) ∧ (∃ H' Y', h' 425 = cL 160 H' ∧ HV c G' H' ∧ h' 426 = cL 480 Y' ∧ SV c c G' Y') ∧ BR G' c l h') := by
  refine r_iload_n rfl dX12_clauses_77 rfl ?_
  refine r_iload_n rfl dX12_clauses_78 rfl ?_
  refine r_icmp_ge (tgt := 186) rfl rfl dX12_clauses_79 (fun _ => ?_) (fun zc => absurd (show nI c ≤ nI k from nI_le (a := c) (b := k) (by omega) (by omega)) zc)
  refine EV.post ?_ (zz_clauses_b hS h5 hc hl ((shM_cg (fun x hx => hG x (by omega))).trans hsl) h22 h25 h26 h31 h27 h28 h29 h30)
  rintro a1 a2 a3 ⟨b1, b2, b3, b4, b5, b6, b7⟩
  exact ⟨b1, b2, KM_tr hF (KM_sb (by decide) b3), b4, b5, G, (b3 422 (by decide)).trans h22, by rw [← hk]; exact hG, b6, b7⟩
set_option maxRecDepth 20000 in
set_option maxHeartbeats 1000000 in
theorem zz_ca_s {xs : Nat → Int32} {L d : Nat} {h : ev_H} {h0 : ev_H} {k : Nat} {D G : Nat → Int32} {th : Int32} {tr : Int64} {ty nx tk pl va cl md ss wg : Int32} {c : Nat} {H Y T A1 A2 S0 W0 : Nat → Int64} {l : Nat} (hS : SH h) (hc : c ≤ 16) (hl : l < 256) (hsl : shM (dG D) c = nI l) (hF : KM [420, 422, 425, 426, 427, 428, 429, 430, 431] h0 h) (h5 : h 420 = c420 th tr ty nx tk pl va (-1) cl md ss wg) (h22 : h 422 = cI 240 G) (h23 : h 423 = cI 48 D) (h25 : h 425 = cL 160 H) (h26 : h 426 = cL 480 Y) (h31 : h 431 = cL 4 T) (h27 : h 427 = cL 4 A1) (h28 : h 428 = cL 4 A2) (h29 : h 429 = cL 4 S0) (h30 : h 430 = cL 4 W0) (hG : ∀ x, x < 6 * k → G x = dG D x) (hk : k < c) (ih : ∀ (h' : ev_H) (G' : Nat → Int32), SH h' → KM [420, 422, 425, 426, 427, 428, 429, 430, 431] h0 h' → h' 420 = c420 th tr ty nx tk pl va (-1) cl md ss wg → h' 422 = cI 240 G' → h' 423 = cI 48 D → h' 425 = cL 160 H → h' 426 = cL 480 Y → h' 431 = cL 4 T → h' 427 = cL 4 A1 → h' 428 = cL 4 A2 → h' 429 = cL 4 S0 → h' 430 = cL 4 W0 → (∀ x, x < 6 * (k + 1) → G' x = dG D x) → EV xs L (d + 3) 0 0 M_X12_clauses 434 h' 77 [some (.ref 420), some (.int (nI c)), some (.int (nI (k + 1)))] [] (fun sz' h' r => sz' = 434 ∧ SH h' ∧ KM [420, 422, 425, 426, 427, 428, 429, 430, 431] h0 h' ∧ r = [.int (nI c)] ∧ h' 420 = c420 th tr 0 nx tk pl va (-1) (nI c) 0 0 (-9) ∧ ∃ G', h' 422 = cI 240 G' ∧ (∀ x, x < 6 * c → G' x = dG D x) ∧ (∃ H' Y', h' 425 = cL 160 H' ∧ HV c G' H' ∧ h' 426 = cL 480 Y' ∧ SV c c G' Y') ∧ BR G' c l h')) : EV xs L (d + 3) 0 0 M_X12_clauses 434 h 77 [some (.ref 420), some (.int (nI c)), some (.int (nI k))] [] (fun sz' h' r => sz' = 434 ∧ SH h' ∧ KM [420, 422, 425, 426, 427, 428, 429, 430, 431] h0 h' ∧ r = [.int (nI c)] ∧ h' 420 = c420 th tr 0 nx tk pl va (-1) (nI c) 0 0 (-9) ∧ ∃ G', h' 422 = cI 240 G' ∧ (∀ x, x < 6 * c → G' x = dG D x) ∧ (∃ H' Y', h' 425 = cL 160 H' ∧ HV c G' H' ∧ h' 426 = cL 480 Y' ∧ SV c c G' Y') ∧ BR G' c l h') := by
  refine r_iload_n rfl dX12_clauses_77 rfl ?_
  refine r_iload_n rfl dX12_clauses_78 rfl ?_
  refine r_icmp_ge (tgt := 186) rfl rfl dX12_clauses_79 (fun zc => absurd zc (show ¬ nI c ≤ nI k from nI_ge (a := k) (b := c) (by omega) (by omega))) (fun _ => ?_)
  refine r_aload_n rfl dX12_clauses_82 rfl ?_
  refine r_getv 13 rfl dX12_clauses_83 (show 2 ≤ 420 ∧ 420 < 434 by decide) h5 fl_X12_17 rfl ?_
  refine r_bipush (v := 6) rfl dX12_clauses_86 (by decide) ?_
  refine r_iload_n rfl dX12_clauses_88 rfl ?_
  refine r_imul rfl dX12_clauses_89 ?_
  refine r_eqi (y := nI (6 * k)) (show 6 * (nI k) = nI (6 * k) from pk_mul 6 k) ?_
  refine r_aload_n rfl dX12_clauses_90 rfl ?_
  refine r_getv 14 rfl dX12_clauses_91 (show 2 ≤ 420 ∧ 420 < 434 by decide) h5 fl_X12_20 rfl ?_
  refine r_iconst (v := 3) rfl dX12_clauses_94 (by decide) ?_
  refine r_iload_n rfl dX12_clauses_95 rfl ?_
  refine r_imul rfl dX12_clauses_96 ?_
  refine r_eqi (y := nI (3 * k)) (show 3 * (nI k) = nI (3 * k) from pk_mul 3 k) ?_
  refine r_ialdv (jn := 3 * k) (v := D (3 * k)) rfl dX12_clauses_97 (show 2 ≤ 423 ∧ 423 < 434 by decide) h23 (vp_in_nI (n := 3 * k) (by omega) (by decide)) (nI_clamp (n := 3 * k) (by omega)) rfl ?_
  refine e_iast (jn := 6 * k) rfl dX12_clauses_98 (show 2 ≤ 422 ∧ 422 < 434 by decide) hS hF (by decide) h22 (vp_in_nI (n := 6 * k) (by omega) (by decide)) (nI_clamp (n := 6 * k) (by omega)) (fun h51 hS52 hF53 hN54 f55 => ?_)
  have f56 : h51 420 = .inr (12, [.int th, .long tr, .ref 421, .int ty, .int nx, .int tk, .int pl, .int va, .int (-1), .int cl, .int md, .int ss, .int wg, .ref 422, .ref 423, .ref 424, .ref 425, .ref 426, .ref 427, .ref 428, .ref 429, .ref 430, .ref 431, .ref 432, .ref 433]) := (hN54 420 (by decide)).trans h5
  have f57 : h51 423 = .inl (0, 48, .inl D) := (hN54 423 (by decide)).trans h23
  have f58 : h51 425 = .inl (1, 160, .inr (.inl H)) := (hN54 425 (by decide)).trans h25
  have f59 : h51 426 = .inl (1, 480, .inr (.inl Y)) := (hN54 426 (by decide)).trans h26
  have f60 : h51 431 = .inl (1, 4, .inr (.inl T)) := (hN54 431 (by decide)).trans h31
  have f61 : h51 427 = .inl (1, 4, .inr (.inl A1)) := (hN54 427 (by decide)).trans h27
  have f62 : h51 428 = .inl (1, 4, .inr (.inl A2)) := (hN54 428 (by decide)).trans h28
  have f63 : h51 429 = .inl (1, 4, .inr (.inl S0)) := (hN54 429 (by decide)).trans h29
  have f64 : h51 430 = .inl (1, 4, .inr (.inl W0)) := (hN54 430 (by decide)).trans h30
  refine r_aload_n rfl dX12_clauses_99 rfl ?_
  refine r_getv 13 rfl dX12_clauses_100 (show 2 ≤ 420 ∧ 420 < 434 by decide) f56 fl_X12_17 rfl ?_
  refine r_bipush (v := 6) rfl dX12_clauses_103 (by decide) ?_
  refine r_iload_n rfl dX12_clauses_105 rfl ?_
  refine r_imul rfl dX12_clauses_106 ?_
  refine r_eqi (y := nI (6 * k)) (show 6 * (nI k) = nI (6 * k) from pk_mul 6 k) ?_
  refine r_iconst (v := 1) rfl dX12_clauses_107 (by decide) ?_
  refine r_iadd rfl dX12_clauses_108 ?_
  refine r_eqi (y := nI ((6 * k) + 1)) (show (nI (6 * k)) + 1 = nI ((6 * k) + 1) from nI_add (6 * k) 1) ?_
  refine r_aload_n rfl dX12_clauses_109 rfl ?_
  refine r_getv 14 rfl dX12_clauses_110 (show 2 ≤ 420 ∧ 420 < 434 by decide) f56 fl_X12_20 rfl ?_
  refine r_iconst (v := 3) rfl dX12_clauses_113 (by decide) ?_
  refine r_iload_n rfl dX12_clauses_114 rfl ?_
  refine r_imul rfl dX12_clauses_115 ?_
  refine r_eqi (y := nI (3 * k)) (show 3 * (nI k) = nI (3 * k) from pk_mul 3 k) ?_
  refine r_iconst (v := 1) rfl dX12_clauses_116 (by decide) ?_
  refine r_iadd rfl dX12_clauses_117 ?_
  refine r_eqi (y := nI ((3 * k) + 1)) (show (nI (3 * k)) + 1 = nI ((3 * k) + 1) from nI_add (3 * k) 1) ?_
  refine r_ialdv (jn := (3 * k) + 1) (v := D ((3 * k) + 1)) rfl dX12_clauses_118 (show 2 ≤ 423 ∧ 423 < 434 by decide) f57 (vp_in_nI (n := (3 * k) + 1) (by omega) (by decide)) (nI_clamp (n := (3 * k) + 1) (by omega)) rfl ?_
  refine e_iast (jn := (6 * k) + 1) rfl dX12_clauses_119 (show 2 ≤ 422 ∧ 422 < 434 by decide) hS52 hF53 (by decide) f55 (vp_in_nI (n := (6 * k) + 1) (by omega) (by decide)) (nI_clamp (n := (6 * k) + 1) (by omega)) (fun h65 hS66 hF67 hN68 f69 => ?_)
  have f70 : h65 420 = .inr (12, [.int th, .long tr, .ref 421, .int ty, .int nx, .int tk, .int pl, .int va, .int (-1), .int cl, .int md, .int ss, .int wg, .ref 422, .ref 423, .ref 424, .ref 425, .ref 426, .ref 427, .ref 428, .ref 429, .ref 430, .ref 431, .ref 432, .ref 433]) := (hN68 420 (by decide)).trans f56
  have f71 : h65 423 = .inl (0, 48, .inl D) := (hN68 423 (by decide)).trans f57
  have f72 : h65 425 = .inl (1, 160, .inr (.inl H)) := (hN68 425 (by decide)).trans f58
  have f73 : h65 426 = .inl (1, 480, .inr (.inl Y)) := (hN68 426 (by decide)).trans f59
  have f74 : h65 431 = .inl (1, 4, .inr (.inl T)) := (hN68 431 (by decide)).trans f60
  have f75 : h65 427 = .inl (1, 4, .inr (.inl A1)) := (hN68 427 (by decide)).trans f61
  have f76 : h65 428 = .inl (1, 4, .inr (.inl A2)) := (hN68 428 (by decide)).trans f62
  have f77 : h65 429 = .inl (1, 4, .inr (.inl S0)) := (hN68 429 (by decide)).trans f63
  have f78 : h65 430 = .inl (1, 4, .inr (.inl W0)) := (hN68 430 (by decide)).trans f64
  refine r_aload_n rfl dX12_clauses_120 rfl ?_
  refine r_getv 13 rfl dX12_clauses_121 (show 2 ≤ 420 ∧ 420 < 434 by decide) f70 fl_X12_17 rfl ?_
  refine r_bipush (v := 6) rfl dX12_clauses_124 (by decide) ?_
  refine r_iload_n rfl dX12_clauses_126 rfl ?_
  refine r_imul rfl dX12_clauses_127 ?_
  refine r_eqi (y := nI (6 * k)) (show 6 * (nI k) = nI (6 * k) from pk_mul 6 k) ?_
  refine r_iconst (v := 2) rfl dX12_clauses_128 (by decide) ?_
  refine r_iadd rfl dX12_clauses_129 ?_
  refine r_eqi (y := nI ((6 * k) + 2)) (show (nI (6 * k)) + 2 = nI ((6 * k) + 2) from nI_add (6 * k) 2) ?_
  refine r_aload_n rfl dX12_clauses_130 rfl ?_
  refine r_getv 14 rfl dX12_clauses_131 (show 2 ≤ 420 ∧ 420 < 434 by decide) f70 fl_X12_20 rfl ?_
  refine r_iconst (v := 3) rfl dX12_clauses_134 (by decide) ?_
  refine r_iload_n rfl dX12_clauses_135 rfl ?_
  refine r_imul rfl dX12_clauses_136 ?_
  refine r_eqi (y := nI (3 * k)) (show 3 * (nI k) = nI (3 * k) from pk_mul 3 k) ?_
  refine r_iconst (v := 2) rfl dX12_clauses_137 (by decide) ?_
  refine r_iadd rfl dX12_clauses_138 ?_
  refine r_eqi (y := nI ((3 * k) + 2)) (show (nI (3 * k)) + 2 = nI ((3 * k) + 2) from nI_add (3 * k) 2) ?_
  refine r_ialdv (jn := (3 * k) + 2) (v := D ((3 * k) + 2)) rfl dX12_clauses_139 (show 2 ≤ 423 ∧ 423 < 434 by decide) f71 (vp_in_nI (n := (3 * k) + 2) (by omega) (by decide)) (nI_clamp (n := (3 * k) + 2) (by omega)) rfl ?_
  refine e_iast (jn := (6 * k) + 2) rfl dX12_clauses_140 (show 2 ≤ 422 ∧ 422 < 434 by decide) hS66 hF67 (by decide) f69 (vp_in_nI (n := (6 * k) + 2) (by omega) (by decide)) (nI_clamp (n := (6 * k) + 2) (by omega)) (fun h79 hS80 hF81 hN82 f83 => ?_)
  have f84 : h79 420 = .inr (12, [.int th, .long tr, .ref 421, .int ty, .int nx, .int tk, .int pl, .int va, .int (-1), .int cl, .int md, .int ss, .int wg, .ref 422, .ref 423, .ref 424, .ref 425, .ref 426, .ref 427, .ref 428, .ref 429, .ref 430, .ref 431, .ref 432, .ref 433]) := (hN82 420 (by decide)).trans f70
  have f85 : h79 423 = .inl (0, 48, .inl D) := (hN82 423 (by decide)).trans f71
  have f86 : h79 425 = .inl (1, 160, .inr (.inl H)) := (hN82 425 (by decide)).trans f72
  have f87 : h79 426 = .inl (1, 480, .inr (.inl Y)) := (hN82 426 (by decide)).trans f73
  have f88 : h79 431 = .inl (1, 4, .inr (.inl T)) := (hN82 431 (by decide)).trans f74
  have f89 : h79 427 = .inl (1, 4, .inr (.inl A1)) := (hN82 427 (by decide)).trans f75
  have f90 : h79 428 = .inl (1, 4, .inr (.inl A2)) := (hN82 428 (by decide)).trans f76
  have f91 : h79 429 = .inl (1, 4, .inr (.inl S0)) := (hN82 429 (by decide)).trans f77
  have f92 : h79 430 = .inl (1, 4, .inr (.inl W0)) := (hN82 430 (by decide)).trans f78
  refine r_aload_n rfl dX12_clauses_141 rfl ?_
  refine r_getv 13 rfl dX12_clauses_142 (show 2 ≤ 420 ∧ 420 < 434 by decide) f84 fl_X12_17 rfl ?_
  refine r_bipush (v := 6) rfl dX12_clauses_145 (by decide) ?_
  refine r_iload_n rfl dX12_clauses_147 rfl ?_
  refine r_imul rfl dX12_clauses_148 ?_
  refine r_eqi (y := nI (6 * k)) (show 6 * (nI k) = nI (6 * k) from pk_mul 6 k) ?_
  refine r_iconst (v := 3) rfl dX12_clauses_149 (by decide) ?_
  refine r_iadd rfl dX12_clauses_150 ?_
  refine r_eqi (y := nI ((6 * k) + 3)) (show (nI (6 * k)) + 3 = nI ((6 * k) + 3) from nI_add (6 * k) 3) ?_
  refine r_bipush (v := (-9)) rfl dX12_clauses_151 (by decide) ?_
  refine e_iast (jn := (6 * k) + 3) rfl dX12_clauses_153 (show 2 ≤ 422 ∧ 422 < 434 by decide) hS80 hF81 (by decide) f83 (vp_in_nI (n := (6 * k) + 3) (by omega) (by decide)) (nI_clamp (n := (6 * k) + 3) (by omega)) (fun h93 hS94 hF95 hN96 f97 => ?_)
  have f98 : h93 420 = .inr (12, [.int th, .long tr, .ref 421, .int ty, .int nx, .int tk, .int pl, .int va, .int (-1), .int cl, .int md, .int ss, .int wg, .ref 422, .ref 423, .ref 424, .ref 425, .ref 426, .ref 427, .ref 428, .ref 429, .ref 430, .ref 431, .ref 432, .ref 433]) := (hN96 420 (by decide)).trans f84
  have f99 : h93 423 = .inl (0, 48, .inl D) := (hN96 423 (by decide)).trans f85
  have f100 : h93 425 = .inl (1, 160, .inr (.inl H)) := (hN96 425 (by decide)).trans f86
  have f101 : h93 426 = .inl (1, 480, .inr (.inl Y)) := (hN96 426 (by decide)).trans f87
  have f102 : h93 431 = .inl (1, 4, .inr (.inl T)) := (hN96 431 (by decide)).trans f88
  have f103 : h93 427 = .inl (1, 4, .inr (.inl A1)) := (hN96 427 (by decide)).trans f89
  have f104 : h93 428 = .inl (1, 4, .inr (.inl A2)) := (hN96 428 (by decide)).trans f90
  have f105 : h93 429 = .inl (1, 4, .inr (.inl S0)) := (hN96 429 (by decide)).trans f91
  have f106 : h93 430 = .inl (1, 4, .inr (.inl W0)) := (hN96 430 (by decide)).trans f92
  refine r_aload_n rfl dX12_clauses_154 rfl ?_
  refine r_getv 13 rfl dX12_clauses_155 (show 2 ≤ 420 ∧ 420 < 434 by decide) f98 fl_X12_17 rfl ?_
  refine r_bipush (v := 6) rfl dX12_clauses_158 (by decide) ?_
  refine r_iload_n rfl dX12_clauses_160 rfl ?_
  refine r_imul rfl dX12_clauses_161 ?_
  refine r_eqi (y := nI (6 * k)) (show 6 * (nI k) = nI (6 * k) from pk_mul 6 k) ?_
  refine r_iconst (v := 4) rfl dX12_clauses_162 (by decide) ?_
  refine r_iadd rfl dX12_clauses_163 ?_
  refine r_eqi (y := nI ((6 * k) + 4)) (show (nI (6 * k)) + 4 = nI ((6 * k) + 4) from nI_add (6 * k) 4) ?_
  refine r_bipush (v := (-9)) rfl dX12_clauses_164 (by decide) ?_
  refine e_iast (jn := (6 * k) + 4) rfl dX12_clauses_166 (show 2 ≤ 422 ∧ 422 < 434 by decide) hS94 hF95 (by decide) f97 (vp_in_nI (n := (6 * k) + 4) (by omega) (by decide)) (nI_clamp (n := (6 * k) + 4) (by omega)) (fun h107 hS108 hF109 hN110 f111 => ?_)
  have f112 : h107 420 = .inr (12, [.int th, .long tr, .ref 421, .int ty, .int nx, .int tk, .int pl, .int va, .int (-1), .int cl, .int md, .int ss, .int wg, .ref 422, .ref 423, .ref 424, .ref 425, .ref 426, .ref 427, .ref 428, .ref 429, .ref 430, .ref 431, .ref 432, .ref 433]) := (hN110 420 (by decide)).trans f98
  have f113 : h107 423 = .inl (0, 48, .inl D) := (hN110 423 (by decide)).trans f99
  have f114 : h107 425 = .inl (1, 160, .inr (.inl H)) := (hN110 425 (by decide)).trans f100
  have f115 : h107 426 = .inl (1, 480, .inr (.inl Y)) := (hN110 426 (by decide)).trans f101
  have f116 : h107 431 = .inl (1, 4, .inr (.inl T)) := (hN110 431 (by decide)).trans f102
  have f117 : h107 427 = .inl (1, 4, .inr (.inl A1)) := (hN110 427 (by decide)).trans f103
  have f118 : h107 428 = .inl (1, 4, .inr (.inl A2)) := (hN110 428 (by decide)).trans f104
  have f119 : h107 429 = .inl (1, 4, .inr (.inl S0)) := (hN110 429 (by decide)).trans f105
  have f120 : h107 430 = .inl (1, 4, .inr (.inl W0)) := (hN110 430 (by decide)).trans f106
  refine r_aload_n rfl dX12_clauses_167 rfl ?_
  refine r_getv 13 rfl dX12_clauses_168 (show 2 ≤ 420 ∧ 420 < 434 by decide) f112 fl_X12_17 rfl ?_
  refine r_bipush (v := 6) rfl dX12_clauses_171 (by decide) ?_
  refine r_iload_n rfl dX12_clauses_173 rfl ?_
  refine r_imul rfl dX12_clauses_174 ?_
  refine r_eqi (y := nI (6 * k)) (show 6 * (nI k) = nI (6 * k) from pk_mul 6 k) ?_
  refine r_iconst (v := 5) rfl dX12_clauses_175 (by decide) ?_
  refine r_iadd rfl dX12_clauses_176 ?_
  refine r_eqi (y := nI ((6 * k) + 5)) (show (nI (6 * k)) + 5 = nI ((6 * k) + 5) from nI_add (6 * k) 5) ?_
  refine r_bipush (v := (-9)) rfl dX12_clauses_177 (by decide) ?_
  refine e_iast (jn := (6 * k) + 5) rfl dX12_clauses_179 (show 2 ≤ 422 ∧ 422 < 434 by decide) hS108 hF109 (by decide) f111 (vp_in_nI (n := (6 * k) + 5) (by omega) (by decide)) (nI_clamp (n := (6 * k) + 5) (by omega)) (fun h121 hS122 hF123 hN124 f125 => ?_)
  have f126 : h121 420 = .inr (12, [.int th, .long tr, .ref 421, .int ty, .int nx, .int tk, .int pl, .int va, .int (-1), .int cl, .int md, .int ss, .int wg, .ref 422, .ref 423, .ref 424, .ref 425, .ref 426, .ref 427, .ref 428, .ref 429, .ref 430, .ref 431, .ref 432, .ref 433]) := (hN124 420 (by decide)).trans f112
  have f127 : h121 423 = .inl (0, 48, .inl D) := (hN124 423 (by decide)).trans f113
  have f128 : h121 425 = .inl (1, 160, .inr (.inl H)) := (hN124 425 (by decide)).trans f114
  have f129 : h121 426 = .inl (1, 480, .inr (.inl Y)) := (hN124 426 (by decide)).trans f115
  have f130 : h121 431 = .inl (1, 4, .inr (.inl T)) := (hN124 431 (by decide)).trans f116
  have f131 : h121 427 = .inl (1, 4, .inr (.inl A1)) := (hN124 427 (by decide)).trans f117
  have f132 : h121 428 = .inl (1, 4, .inr (.inl A2)) := (hN124 428 (by decide)).trans f118
  have f133 : h121 429 = .inl (1, 4, .inr (.inl S0)) := (hN124 429 (by decide)).trans f119
  have f134 : h121 430 = .inl (1, 4, .inr (.inl W0)) := (hN124 430 (by decide)).trans f120
  refine r_iinc (y := nI (k + 1)) (ls' := [some (.ref 420), some (.int (nI c)), some (.int (nI (k + 1)))]) rfl dX12_clauses_180 rfl (nI_1 k) (Nat.le_of_ble_eq_true rfl) rfl ?_
  refine r_goto (pc' := 77) rfl dX12_clauses_183 ?_
  exact ih h121 _ hS122 hF123 f126 f125 f127 f128 f129 f130 f131 f132 f133 f134 (dG_s hG)
theorem zz_ca {xs : Nat → Int32} {L d : Nat} {h0 : ev_H} {D : Nat → Int32} {th : Int32} {tr : Int64} {ty nx tk pl va cl md ss wg : Int32} {c : Nat} {H Y T A1 A2 S0 W0 : Nat → Int64} {l : Nat} (hc : c ≤ 16) (hl : l < 256) (hsl : shM (dG D) c = nI l) : ∀ (n k : Nat) (h : ev_H) (G : Nat → Int32), k + n = c → SH h → KM [420, 422, 425, 426, 427, 428, 429, 430, 431] h0 h → h 420 = c420 th tr ty nx tk pl va (-1) cl md ss wg → h 422 = cI 240 G → h 423 = cI 48 D → h 425 = cL 160 H → h 426 = cL 480 Y → h 431 = cL 4 T → h 427 = cL 4 A1 → h 428 = cL 4 A2 → h 429 = cL 4 S0 → h 430 = cL 4 W0 → (∀ x, x < 6 * k → G x = dG D x) → EV xs L (d + 3) 0 0 M_X12_clauses 434 h 77 [some (.ref 420), some (.int (nI c)), some (.int (nI k))] [] (fun sz' h' r => sz' = 434 ∧ SH h' ∧ KM [420, 422, 425, 426, 427, 428, 429, 430, 431] h0 h' ∧ r = [.int (nI c)] ∧ h' 420 = c420 th tr 0 nx tk pl va (-1) (nI c) 0 0 (-9) ∧ ∃ G', h' 422 = cI 240 G' ∧ (∀ x, x < 6 * c → G' x = dG D x) ∧ (∃ H' Y', h' 425 = cL 160 H' ∧ HV c G' H' ∧ h' 426 = cL 480 Y' ∧ SV c c G' Y') ∧ BR G' c l h') := by
  intro n
  induction n with
  | zero => intro k h G hk hS hF h5 h22 h23 h25 h26 h31 h27 h28 h29 h30 hG; exact zz_ca_z hS hc hl hsl hF h5 h22 h23 h25 h26 h31 h27 h28 h29 h30 hG (by omega)
  | succ n ih => intro k h G hk hS hF h5 h22 h23 h25 h26 h31 h27 h28 h29 h30 hG; exact zz_ca_s hS hc hl hsl hF h5 h22 h23 h25 h26 h31 h27 h28 h29 h30 hG (by omega) (fun h' G' q1 q2 q3 q4 q5 q6 q7 q8 q9 p1 p2 p3 p4 => ih (k + 1) h' G' (by omega) q1 q2 q3 q4 q5 q6 q7 q8 q9 p1 p2 p3 p4)
set_option maxRecDepth 20000 in
set_option maxHeartbeats 1000000 in
theorem zz_clauses_t {xs : Nat → Int32} {L d : Nat} {h : ev_H} {D G : Nat → Int32} {th : Int32} {tr : Int64} {ty nx tk pl va cl md ss wg : Int32} {c : Nat} {H Y T A1 A2 S0 W0 : Nat → Int64} {l : Nat} (hS : SH h) (hc : c ≤ 16) (hl : l < 256) (hsl : shM (dG D) c = nI l) (h5 : h 420 = c420 th tr ty nx tk pl va (-1) cl md ss wg) (h22 : h 422 = cI 240 G) (h23 : h 423 = cI 48 D) (h25 : h 425 = cL 160 H) (h26 : h 426 = cL 480 Y) (h31 : h 431 = cL 4 T) (h27 : h 427 = cL 4 A1) (h28 : h 428 = cL 4 A2) (h29 : h 429 = cL 4 S0) (h30 : h 430 = cL 4 W0) : EV xs L (d + 3) 0 0 M_X12_clauses 434 h 60 [some (.ref 420), some (.int (nI c)), none] [] (fun sz' h' r => sz' = 434 ∧ SH h' ∧ KM [420, 422, 425, 426, 427, 428, 429, 430, 431] h h' ∧ r = [.int (nI c)] ∧ h' 420 = c420 th tr 0 nx tk pl va (-1) (nI c) 0 0 (-9) ∧ ∃ G', h' 422 = cI 240 G' ∧ (∀ x, x < 6 * c → G' x = dG D x) ∧ (∃ H' Y', h' 425 = cL 160 H' ∧ HV c G' H' ∧ h' 426 = cL 480 Y' ∧ SV c c G' Y') ∧ BR G' c l h') := by
  refine r_aload_n rfl dX12_clauses_60 rfl ?_
  refine cl_X12_92 rfl rfl dX12_clauses_61 (show 2 ≤ 420 ∧ 420 < 434 by decide).1 (show 2 ≤ 420 ∧ 420 < 434 by decide).2 h5 (Nat.le_of_ble_eq_true rfl) (s_X12_isWell1 hS h5) ?_
  rintro _ h51 _ ⟨rfl, e52, rfl⟩
  replace e52 := e52.symm
  subst e52
  refine r_if_ne (tgt := 75) rfl rfl dX12_clauses_64 (fun _ => ?_) (fun zc => absurd zc (by decide))
  refine r_iconst (v := 0) rfl dX12_clauses_75 (by decide) ?_
  refine r_istore_n (ls' := [some (.ref 420), some (.int (nI c)), some (.int 0)]) rfl dX12_clauses_76 (Nat.le_of_ble_eq_true rfl) rfl ?_
  exact zz_ca hc hl hsl c 0 h G (by omega) hS (KM_rf (Mod := [420, 422, 425, 426, 427, 428, 429, 430, 431]) h) h5 h22 h23 h25 h26 h31 h27 h28 h29 h30 (fun x hx => absurd hx (by omega))
set_option maxRecDepth 20000 in
set_option maxHeartbeats 1000000 in
theorem zz_X12_clauses {xs : Nat → Int32} {L d : Nat} {h : ev_H} {th : Int32} {tr : Int64} {nx tk pl va fa cl md ss wg : Int32} {f g : Nat → Int32} {n : Nat} {D G A B C : Nat → Int32} {H Y T A1 A2 S0 W0 : Nat → Int64} {l : Nat} (hS : SH h) (hX : TXR f g n) (h5 : h 420 = c420 th tr (nI n) nx tk pl va fa cl md ss wg) (h6 : h 421 = c421 g) (h22 : h 422 = cI 240 G) (h7 : h 423 = cI 48 D) (h25 : h 425 = cL 160 H) (h26 : h 426 = cL 480 Y) (h31 : h 431 = cL 4 T) (h27 : h 427 = cL 4 A1) (h28 : h 428 = cL 4 A2) (h29 : h 429 = cL 4 S0) (h30 : h 430 = cL 4 W0) (hl : l < 256) (hsl : shM (clG (csL f n 16 0 0 A B C).2.2.1 (csL f n 16 0 0 A B C).2.2.2.1 (csL f n 16 0 0 A B C).2.2.2.2) (csL f n 16 0 0 A B C).2.1 = nI l) : EV xs L (d + 5) 0 0 M_X12_clauses 434 h 0 [some (.ref 420), none, none] [] (fun sz' h' r => sz' = 434 ∧ SH h' ∧ KM [420, 422, 423, 425, 426, 427, 428, 429, 430, 431] h h' ∧ (((csL f n 16 0 0 A B C).1 = -1 ∧ (csL f n 16 0 0 A B C).2.1 ≤ 16 ∧ r = [.int (nI (csL f n 16 0 0 A B C).2.1)] ∧ (∃ nx tk pl va, h' 420 = c420 0 tr 0 nx tk pl va (-1) (nI (csL f n 16 0 0 A B C).2.1) 0 0 (-9)) ∧ ∃ G', h' 422 = cI 240 G' ∧ (∀ x, x < 6 * (csL f n 16 0 0 A B C).2.1 → G' x = clG (csL f n 16 0 0 A B C).2.2.1 (csL f n 16 0 0 A B C).2.2.2.1 (csL f n 16 0 0 A B C).2.2.2.2 x) ∧ (∃ H' Y', h' 425 = cL 160 H' ∧ HV (csL f n 16 0 0 A B C).2.1 G' H' ∧ h' 426 = cL 480 Y' ∧ SV (csL f n 16 0 0 A B C).2.1 (csL f n 16 0 0 A B C).2.1 G' Y') ∧ BR G' (csL f n 16 0 0 A B C).2.1 l h') ∨ (∃ q, q ≤ 300 ∧ (csL f n 16 0 0 A B C).1 = nI q ∧ r = [.int (-10 - nI q)] ∧ (∃ nx tk pl va, h' 420 = c420 0 tr (nI n) nx tk pl va (nI q) cl md ss wg) ∧ h' 422 = cI 240 G ∧ h' 425 = cL 160 H ∧ h' 426 = cL 480 Y ∧ h' 427 = cL 4 A1 ∧ h' 428 = cL 4 A2 ∧ h' 429 = cL 4 S0 ∧ h' 430 = cL 4 W0))) := by
  refine r_aload_n rfl dX12_clauses_0 rfl ?_
  refine r_iconst (v := 0) rfl dX12_clauses_1 (by decide) ?_
  refine e_put 0 (fs' := [.int 0, .long tr, .ref 421, .int (nI n), .int nx, .int tk, .int pl, .int va, .int fa, .int cl, .int md, .int ss, .int wg, .ref 422, .ref 423, .ref 424, .ref 425, .ref 426, .ref 427, .ref 428, .ref 429, .ref 430, .ref 431, .ref 432, .ref 433]) rfl dX12_clauses_2 (show 2 ≤ 420 ∧ 420 < 434 by decide) hS (KM_rf (Mod := [420, 422, 423, 425, 426, 427, 428, 429, 430, 431]) h) (by decide) h5 (fp_X12_57 rfl _) (Nat.le_of_ble_eq_true rfl) rfl (fun h51 hS52 hF53 hN54 f55 => ?_)
  have f56 : h51 421 = .inl (0, 300, .inl g) := (hN54 421 (by decide)).trans h6
  have f57 : h51 422 = .inl (0, 240, .inl G) := (hN54 422 (by decide)).trans h22
  have f58 : h51 423 = .inl (0, 48, .inl D) := (hN54 423 (by decide)).trans h7
  have f59 : h51 425 = .inl (1, 160, .inr (.inl H)) := (hN54 425 (by decide)).trans h25
  have f60 : h51 426 = .inl (1, 480, .inr (.inl Y)) := (hN54 426 (by decide)).trans h26
  have f61 : h51 431 = .inl (1, 4, .inr (.inl T)) := (hN54 431 (by decide)).trans h31
  have f62 : h51 427 = .inl (1, 4, .inr (.inl A1)) := (hN54 427 (by decide)).trans h27
  have f63 : h51 428 = .inl (1, 4, .inr (.inl A2)) := (hN54 428 (by decide)).trans h28
  have f64 : h51 429 = .inl (1, 4, .inr (.inl S0)) := (hN54 429 (by decide)).trans h29
  have f65 : h51 430 = .inl (1, 4, .inr (.inl W0)) := (hN54 430 (by decide)).trans h30
  refine r_iconst (v := 0) rfl dX12_clauses_5 (by decide) ?_
  refine r_istore_n (ls' := [some (.ref 420), some (.int 0), none]) rfl dX12_clauses_6 (Nat.le_of_ble_eq_true rfl) rfl ?_
  refine r_aload_n rfl dX12_clauses_7 rfl ?_
  refine cl_X12_106 rfl rfl dX12_clauses_8 (show 2 ≤ 420 ∧ 420 < 434 by decide).1 (show 2 ≤ 420 ∧ 420 < 434 by decide).2 f55 (Nat.le_of_ble_eq_true rfl) (s_X12_begins hS52 hX f55 f56) ?_
  rintro _ h66 _ ⟨rfl, hS67, hK68, ⟨w71, f69, hw72⟩, rfl⟩
  have hF70 := KM_tr hF53 (KM_sb (by decide) hK68)
  have hl73 := (rdS_le f (Nat.zero_le n)).2
  have f74 : h66 421 = .inl (0, 300, .inl g) := (hK68 421 (by decide)).trans f56
  have f75 : h66 422 = .inl (0, 240, .inl G) := (hK68 422 (by decide)).trans f57
  have f76 : h66 423 = .inl (0, 48, .inl D) := (hK68 423 (by decide)).trans f58
  have f77 : h66 425 = .inl (1, 160, .inr (.inl H)) := (hK68 425 (by decide)).trans f59
  have f78 : h66 426 = .inl (1, 480, .inr (.inl Y)) := (hK68 426 (by decide)).trans f60
  have f79 : h66 431 = .inl (1, 4, .inr (.inl T)) := (hK68 431 (by decide)).trans f61
  have f80 : h66 427 = .inl (1, 4, .inr (.inl A1)) := (hK68 427 (by decide)).trans f62
  have f81 : h66 428 = .inl (1, 4, .inr (.inl A2)) := (hK68 428 (by decide)).trans f63
  have f82 : h66 429 = .inl (1, 4, .inr (.inl S0)) := (hK68 429 (by decide)).trans f64
  have f83 : h66 430 = .inl (1, 4, .inr (.inl W0)) := (hK68 430 (by decide)).trans f65
  refine s_X12_clauses_loop (h0 := h66) (RES := (csL f n 16 0 0 A B C)) hX ?_ ?_ 16 0 0 A B C _ D h66 rfl (Nat.zero_le n) hS67 (KM_rf _) f69 hw72 f74 f76 (fun j z => absurd z (by omega)) rfl
  · intro h1 D' nx1 tk1 pl1 va1 hS1 hF1 g5 g7 hr hD hle
    refine EV.post ?_ (zz_clauses_t (d := d + 2) hS1 hle hl ((shM_cg (fun x hx => dG_cl hD hx)).trans hsl) g5 ((hF1 422 (by decide)).trans f75) g7 ((hF1 425 (by decide)).trans f77) ((hF1 426 (by decide)).trans f78) ((hF1 431 (by decide)).trans f79) ((hF1 427 (by decide)).trans f80) ((hF1 428 (by decide)).trans f81) ((hF1 429 (by decide)).trans f82) ((hF1 430 (by decide)).trans f83))
    rintro a1 a2 a3 ⟨b1, b2, b3, b4, b5, G', b6, b7, b8, b9⟩
    exact ⟨b1, b2, KM_tr hF70 (KM_tr (KM_sb (by decide) hF1) (KM_sb (by decide) b3)), Or.inl ⟨hr, hle, b4, ⟨_, _, _, _, b5⟩, G', b6, fun x hx => (b7 x hx).trans (dG_cl hD hx), b8, b9⟩⟩
  · intro h1 x nx1 tk1 pl1 va1 q hS1 hF1 g5 hq hr
    refine EV.post ?_ (s_X12_clauses_fault (d := d + 4) hS1 g5 (by omega))
    rintro a1 a2 a3 ⟨b1, b2, b3, b4, b5⟩
    subst b4
    exact ⟨b1, b2, KM_tr hF70 (KM_sb (by decide) hF1), Or.inr ⟨q, hq, hr, b5, ⟨_, _, _, _, g5⟩, ((hF1 422 (by decide)).trans f75), ((hF1 425 (by decide)).trans f77), ((hF1 426 (by decide)).trans f78), ((hF1 427 (by decide)).trans f80), ((hF1 428 (by decide)).trans f81), ((hF1 429 (by decide)).trans f82), ((hF1 430 (by decide)).trans f83)⟩⟩
