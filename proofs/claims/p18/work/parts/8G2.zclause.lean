/-- the rows behind the first k CLAUSES -/
def hdG (G : Nat → Int32) (H : Nat → Int64) : Nat → Nat → Int64
  | 0 => H
  | k + 1 => hwR (hdG G H k) k (soB (G (6 * k)) (G (6 * k + 1))) 256
def bgG (G : Nat → Int32) (c : Nat) (Y : Nat → Int64) : Nat → Nat → Int64
  | 0 => Y
  | k + 1 => bgY G c (bgG G c Y k) k
theorem hdG_hv (G : Nat → Int32) (H : Nat → Int64) : ∀ k, HV k G (hdG G H k)
  | 0 => fun i hi => absurd hi (by omega)
  | k + 1 => HV_s (fun _ _ => rfl) (hdG_hv G H k)
theorem hnR_in {H : Nat → Int64} {i : Nat} {P : Nat → Bool} {p : Nat} (h : p < 4) : hnR H i P 256 (4 * i + p) = wO P p ^^^ (-1) := by
  rw [hnR, if_pos (by omega), hwR_in h]
theorem hnR_lo {H : Nat → Int64} {i : Nat} {P : Nat → Bool} {w q : Nat} (h : ¬ (4 * i ≤ q ∧ q < 4 * i + 4)) : hnR H i P w q = H q := if_neg h
theorem bgY_lo {G : Nat → Int32} {c : Nat} {Y : Nat → Int64} {i k way p : Nat} (hi : i < 40) (hk : k < 40) (hw : way < 3) (hp : p < 4) (h : k ≠ i) : bgY G c Y i (160 * way + 4 * k + p) = Y (160 * way + 4 * k + p) := by
  unfold bgY
  split
  · unfold bgO
    rw [bkR_lo (by omega), bkR_lo (by omega), hwR_lo (by omega)]
  · unfold bgT
    rw [bkR_lo (by omega), hnR_lo (by omega), bkR_lo (by omega)]
theorem bgY_in {G : Nat → Int32} {c : Nat} {Y : Nat → Int64} {i way p : Nat} (hi : i < 40) (hw : way < 3) (hp : p < 4) : bgY G c Y i (160 * way + 4 * i + p) = bgW G c i way p := by
  unfold bgY bgW
  by_cases ho : G (6 * i + 2) = 1
  · rw [if_pos ho, if_pos ho]
    unfold bgO
    match way, hw with
    | 0, _ => rw [bkR_lo (by omega), bkR_lo (by omega), show 160 * 0 + 4 * i + p = 4 * i + p by omega, hwR_in hp, if_pos rfl]
    | 1, _ => rw [bkR_lo (by omega), show 160 * 1 + 4 * i + p = 4 * (40 + i) + p by omega, bkR_in hp, if_neg (by decide)]
    | 2, _ => rw [show 160 * 2 + 4 * i + p = 4 * (80 + i) + p by omega, bkR_in hp, if_neg (by decide)]
  · rw [if_neg ho, if_neg ho]
    unfold bgT
    match way, hw with
    | 0, _ => rw [bkR_lo (by omega), hnR_lo (by omega), show 160 * 0 + 4 * i + p = 4 * i + p by omega, bkR_in hp, if_neg (by decide)]
    | 1, _ => rw [bkR_lo (by omega), show 160 * 1 + 4 * i + p = 4 * (40 + i) + p by omega, hnR_in hp, if_pos rfl]
    | 2, _ => rw [show 160 * 2 + 4 * i + p = 4 * (80 + i) + p by omega, bkR_in hp, if_neg (by decide)]
theorem bgG_in {G : Nat → Int32} {c : Nat} {Y : Nat → Int64} {way p : Nat} (hw : way < 3) (hp : p < 4) : ∀ k, k ≤ 40 → ∀ i, i < k → bgG G c Y k (160 * way + 4 * i + p) = bgW G c i way p
  | 0, _, i, hi => absurd hi (by omega)
  | k + 1, hk, i, hi => by
    rw [bgG]
    by_cases e : i = k
    · subst e; exact bgY_in (by omega) hw hp
    · rw [bgY_lo (by omega) (by omega) hw hp e]; exact bgG_in hw hp k (by omega) i (by omega)
theorem bgG_sv {G : Nat → Int32} {c : Nat} {Y : Nat → Int64} (hc : c ≤ 16) : SV c c G (bgG G c Y c) := fun i hi way hw p hp => by
  rw [bgG_in hw hp c (by omega) i hi, syW, if_pos hi]
set_option maxRecDepth 20000 in
set_option maxHeartbeats 1000000 in
theorem z_cb2_z {xs : Nat → Int32} {L d : Nat} {h : ev_H} {h0 : ev_H} {th : Int32} {tr : Int64} {nx tk pl va : Int32} {c : Nat} {G : Nat → Int32} {H Y T : Nat → Int64} {k : Nat} (hS : SH h) (hc : c ≤ 16) (hF : KM [420, 425, 426, 427, 428, 429, 430, 431] h0 h) (h5 : h 420 = .inr (12, [.int th, .long tr, .ref 421, .int 0, .int nx, .int tk, .int pl, .int va, .int (-1), .int (nI c), .int 0, .int 0, .int (-9), .ref 422, .ref 423, .ref 424, .ref 425, .ref 426, .ref 427, .ref 428, .ref 429, .ref 430, .ref 431, .ref 432, .ref 433])) (h22 : h 422 = .inl (0, 240, .inl G)) (h25 : h 425 = .inl (1, 160, .inr (.inl (hdG G H (k))))) (h26 : h 426 = .inl (1, 480, .inr (.inl (bgG G c Y (k))))) (h31 : h 431 = .inl (1, 4, .inr (.inl T))) (hk : k = c) : EV xs L (d + 3) 0 0 M_X12_clauses 434 h 234 [some (.ref 420), some (.int (nI c)), some (.int (nI k))] [] (fun sz' h' r => sz' = 434 ∧ SH h' ∧ KM [420, 425, 426, 427, 428, 429, 430, 431] h0 h' ∧ r = [.int (nI c)] ∧ h' 420 = c420 th tr 0 nx tk pl va (-1) (nI c) 0 0 (-9) ∧ (∃ H' Y', h' 425 = cL 160 H' ∧ HV c G H' ∧ h' 426 = cL 480 Y' ∧ SV c c G Y')) := by
  refine r_iload_n rfl dX12_clauses_234 rfl ?_
  refine r_aload_n rfl dX12_clauses_235 rfl ?_
  refine r_getv 9 rfl dX12_clauses_236 (show 2 ≤ 420 ∧ 420 < 434 by decide) h5 fl_X12_112 rfl ?_
  refine r_icmp_ge (tgt := 258) rfl rfl dX12_clauses_239 (fun _ => ?_) (fun zc => absurd (show nI (c) ≤ nI k from nI_le (a := c) (b := k) (by omega) (by omega)) zc)
  refine r_aload_n rfl dX12_clauses_258 rfl ?_
  refine cl_X12_54 rfl rfl dX12_clauses_259 (show 2 ≤ 420 ∧ 420 < 434 by decide).1 (show 2 ≤ 420 ∧ 420 < 434 by decide).2 h5 (Nat.le_of_ble_eq_true rfl) (s_X12_bounds (m := 0) hS h5 hc (by decide)) ?_
  rintro _ h51 _ ⟨rfl, hS52, hk53, rfl⟩
  have hF54 := KM_tr hF (KM_sb (by decide) hk53)
  have f55 : h51 420 = .inr (12, [.int th, .long tr, .ref 421, .int 0, .int nx, .int tk, .int pl, .int va, .int (-1), .int (nI c), .int 0, .int 0, .int (-9), .ref 422, .ref 423, .ref 424, .ref 425, .ref 426, .ref 427, .ref 428, .ref 429, .ref 430, .ref 431, .ref 432, .ref 433]) := (hk53 420 (by decide)).trans h5
  have f56 : h51 422 = .inl (0, 240, .inl G) := (hk53 422 (by decide)).trans h22
  have f57 : h51 425 = .inl (1, 160, .inr (.inl (hdG G H (k)))) := (hk53 425 (by decide)).trans h25
  have f58 : h51 426 = .inl (1, 480, .inr (.inl (bgG G c Y (k)))) := (hk53 426 (by decide)).trans h26
  have f59 : h51 431 = .inl (1, 4, .inr (.inl T)) := (hk53 431 (by decide)).trans h31
  refine r_aload_n rfl dX12_clauses_262 rfl ?_
  refine r_getv 9 rfl dX12_clauses_263 (show 2 ≤ 420 ∧ 420 < 434 by decide) f55 fl_X12_112 rfl ?_
  subst hk
  exact r_ret dX12_clauses_266 (rt_i rfl) ⟨rfl, hS52, hF54, rfl, f55, _, _, f57, hdG_hv G H k, f58, bgG_sv hc⟩
set_option maxRecDepth 20000 in
set_option maxHeartbeats 1000000 in
theorem z_cb2_s {xs : Nat → Int32} {L d : Nat} {h : ev_H} {h0 : ev_H} {th : Int32} {tr : Int64} {nx tk pl va : Int32} {c : Nat} {G : Nat → Int32} {H Y T : Nat → Int64} {k : Nat} (hS : SH h) (hc : c ≤ 16) (hF : KM [420, 425, 426, 427, 428, 429, 430, 431] h0 h) (h5 : h 420 = .inr (12, [.int th, .long tr, .ref 421, .int 0, .int nx, .int tk, .int pl, .int va, .int (-1), .int (nI c), .int 0, .int 0, .int (-9), .ref 422, .ref 423, .ref 424, .ref 425, .ref 426, .ref 427, .ref 428, .ref 429, .ref 430, .ref 431, .ref 432, .ref 433])) (h22 : h 422 = .inl (0, 240, .inl G)) (h25 : h 425 = .inl (1, 160, .inr (.inl (hdG G H (k))))) (h26 : h 426 = .inl (1, 480, .inr (.inl (bgG G c Y (k))))) (h31 : h 431 = .inl (1, 4, .inr (.inl T))) (hk : k < c) (ih : ∀ (h' : ev_H), SH h' → KM [420, 425, 426, 427, 428, 429, 430, 431] h0 h' → h' 420 = .inr (12, [.int th, .long tr, .ref 421, .int 0, .int nx, .int tk, .int pl, .int va, .int (-1), .int (nI c), .int 0, .int 0, .int (-9), .ref 422, .ref 423, .ref 424, .ref 425, .ref 426, .ref 427, .ref 428, .ref 429, .ref 430, .ref 431, .ref 432, .ref 433]) → h' 422 = .inl (0, 240, .inl G) → h' 425 = .inl (1, 160, .inr (.inl (hdG G H (k + 1)))) → h' 426 = .inl (1, 480, .inr (.inl (bgG G c Y (k + 1)))) → h' 431 = .inl (1, 4, .inr (.inl T)) → EV xs L (d + 3) 0 0 M_X12_clauses 434 h' 234 [some (.ref 420), some (.int (nI c)), some (.int (nI (k + 1)))] [] (fun sz' h' r => sz' = 434 ∧ SH h' ∧ KM [420, 425, 426, 427, 428, 429, 430, 431] h0 h' ∧ r = [.int (nI c)] ∧ h' 420 = c420 th tr 0 nx tk pl va (-1) (nI c) 0 0 (-9) ∧ (∃ H' Y', h' 425 = cL 160 H' ∧ HV c G H' ∧ h' 426 = cL 480 Y' ∧ SV c c G Y'))) : EV xs L (d + 3) 0 0 M_X12_clauses 434 h 234 [some (.ref 420), some (.int (nI c)), some (.int (nI k))] [] (fun sz' h' r => sz' = 434 ∧ SH h' ∧ KM [420, 425, 426, 427, 428, 429, 430, 431] h0 h' ∧ r = [.int (nI c)] ∧ h' 420 = c420 th tr 0 nx tk pl va (-1) (nI c) 0 0 (-9) ∧ (∃ H' Y', h' 425 = cL 160 H' ∧ HV c G H' ∧ h' 426 = cL 480 Y' ∧ SV c c G Y')) := by
  refine r_iload_n rfl dX12_clauses_234 rfl ?_
  refine r_aload_n rfl dX12_clauses_235 rfl ?_
  refine r_getv 9 rfl dX12_clauses_236 (show 2 ≤ 420 ∧ 420 < 434 by decide) h5 fl_X12_112 rfl ?_
  refine r_icmp_ge (tgt := 258) rfl rfl dX12_clauses_239 (fun zc => absurd zc (show ¬ nI (c) ≤ nI k from nI_ge (a := k) (b := c) (by omega) (by omega))) (fun _ => ?_)
  refine r_aload_n rfl dX12_clauses_242 rfl ?_
  refine r_iload_n rfl dX12_clauses_243 rfl ?_
  refine cl_X12_121 rfl rfl dX12_clauses_244 (show 2 ≤ 420 ∧ 420 < 434 by decide).1 (show 2 ≤ 420 ∧ 420 < 434 by decide).2 h5 (Nat.le_of_ble_eq_true rfl) (z_X12_holding (m := 0) (i := k) hS (by omega) h5 h22 h25) ?_
  rintro _ h51 _ ⟨rfl, hS52, hk53, f54, rfl⟩
  have hF55 := KM_tr hF (KM_sb (by decide) hk53)
  have f56 : h51 420 = .inr (12, [.int th, .long tr, .ref 421, .int 0, .int nx, .int tk, .int pl, .int va, .int (-1), .int (nI c), .int 0, .int 0, .int (-9), .ref 422, .ref 423, .ref 424, .ref 425, .ref 426, .ref 427, .ref 428, .ref 429, .ref 430, .ref 431, .ref 432, .ref 433]) := (hk53 420 (by decide)).trans h5
  have f57 : h51 422 = .inl (0, 240, .inl G) := (hk53 422 (by decide)).trans h22
  have f58 : h51 426 = .inl (1, 480, .inr (.inl (bgG G c Y (k)))) := (hk53 426 (by decide)).trans h26
  have f59 : h51 431 = .inl (1, 4, .inr (.inl T)) := (hk53 431 (by decide)).trans h31
  refine r_aload_n rfl dX12_clauses_247 rfl ?_
  refine r_iload_n rfl dX12_clauses_248 rfl ?_
  refine cl_X12_124 rfl rfl dX12_clauses_249 (show 2 ≤ 420 ∧ 420 < 434 by decide).1 (show 2 ≤ 420 ∧ 420 < 434 by decide).2 f56 (Nat.le_of_ble_eq_true rfl) (z_X12_beginning (m := 0) (i := k) hS52 f56 hc (by decide) (by omega) f57 f58) ?_
  rintro _ h60 _ ⟨rfl, hS61, hk62, f63, rfl⟩
  have hF64 := KM_tr hF55 (KM_sb (by decide) hk62)
  have f65 : h60 420 = .inr (12, [.int th, .long tr, .ref 421, .int 0, .int nx, .int tk, .int pl, .int va, .int (-1), .int (nI c), .int 0, .int 0, .int (-9), .ref 422, .ref 423, .ref 424, .ref 425, .ref 426, .ref 427, .ref 428, .ref 429, .ref 430, .ref 431, .ref 432, .ref 433]) := (hk62 420 (by decide)).trans f56
  have f66 : h60 422 = .inl (0, 240, .inl G) := (hk62 422 (by decide)).trans f57
  have f67 : h60 431 = .inl (1, 4, .inr (.inl T)) := (hk62 431 (by decide)).trans f59
  have f68 : h60 425 = .inl (1, 160, .inr (.inl (hwR (hdG G H (k)) k (soB (G (6 * k)) (G (6 * k + 1))) 256))) := (hk62 425 (by decide)).trans f54
  refine r_iinc (y := nI (k + 1)) (ls' := [some (.ref 420), some (.int (nI c)), some (.int (nI (k + 1)))]) rfl dX12_clauses_252 rfl (nI_1 k) (Nat.le_of_ble_eq_true rfl) rfl ?_
  refine r_goto (pc' := 234) rfl dX12_clauses_255 ?_
  exact ih h60 hS61 hF64 f65 f66 f68 f63 f67
theorem z_cb2 {xs : Nat → Int32} {L d : Nat} {h0 : ev_H} {th : Int32} {tr : Int64} {nx tk pl va : Int32} {c : Nat} {G : Nat → Int32} {H Y T : Nat → Int64} (hc : c ≤ 16) : ∀ (nn k : Nat) (h : ev_H), k + nn = c → SH h → KM [420, 425, 426, 427, 428, 429, 430, 431] h0 h → h 420 = .inr (12, [.int th, .long tr, .ref 421, .int 0, .int nx, .int tk, .int pl, .int va, .int (-1), .int (nI c), .int 0, .int 0, .int (-9), .ref 422, .ref 423, .ref 424, .ref 425, .ref 426, .ref 427, .ref 428, .ref 429, .ref 430, .ref 431, .ref 432, .ref 433]) → h 422 = .inl (0, 240, .inl G) → h 425 = .inl (1, 160, .inr (.inl (hdG G H (k)))) → h 426 = .inl (1, 480, .inr (.inl (bgG G c Y (k)))) → h 431 = .inl (1, 4, .inr (.inl T)) → EV xs L (d + 3) 0 0 M_X12_clauses 434 h 234 [some (.ref 420), some (.int (nI c)), some (.int (nI k))] [] (fun sz' h' r => sz' = 434 ∧ SH h' ∧ KM [420, 425, 426, 427, 428, 429, 430, 431] h0 h' ∧ r = [.int (nI c)] ∧ h' 420 = c420 th tr 0 nx tk pl va (-1) (nI c) 0 0 (-9) ∧ (∃ H' Y', h' 425 = cL 160 H' ∧ HV c G H' ∧ h' 426 = cL 480 Y' ∧ SV c c G Y')) := by
  intro nn
  induction nn with
  | zero => intro k h hk hS hF h5 h22 h25 h26 h31; exact z_cb2_z hS hc hF h5 h22 h25 h26 h31 (by omega)
  | succ nn ih => intro k h hk hS hF h5 h22 h25 h26 h31; exact z_cb2_s hS hc hF h5 h22 h25 h26 h31 (by omega) (fun h' q0 q1 q2 q3 q4 q5 q6 => ih (k + 1) h' (by omega) q0 q1 q2 q3 q4 q5 q6)
set_option maxRecDepth 20000 in
set_option maxHeartbeats 1000000 in
theorem z_cb1_z {xs : Nat → Int32} {L d : Nat} {h : ev_H} {h0 : ev_H} {th : Int32} {tr : Int64} {nx tk pl va : Int32} {c : Nat} {G : Nat → Int32} {H Y T : Nat → Int64} {k : Nat} (hS : SH h) (hc : c ≤ 16) (hF : KM [420, 425, 426, 427, 428, 429, 430, 431] h0 h) (h5 : h 420 = .inr (12, [.int th, .long tr, .ref 421, .int 0, .int nx, .int tk, .int pl, .int va, .int (-1), .int (nI c), .int 0, .int 0, .int (-9), .ref 422, .ref 423, .ref 424, .ref 425, .ref 426, .ref 427, .ref 428, .ref 429, .ref 430, .ref 431, .ref 432, .ref 433])) (h22 : h 422 = .inl (0, 240, .inl G)) (h25 : h 425 = .inl (1, 160, .inr (.inl H))) (h26 : h 426 = .inl (1, 480, .inr (.inl Y))) (h31 : h 431 = .inl (1, 4, .inr (.inl (hzR T 0 (k))))) (hk : k = 4) : EV xs L (d + 3) 0 0 M_X12_clauses 434 h 214 [some (.ref 420), some (.int (nI c)), some (.int (nI k))] [] (fun sz' h' r => sz' = 434 ∧ SH h' ∧ KM [420, 425, 426, 427, 428, 429, 430, 431] h0 h' ∧ r = [.int (nI c)] ∧ h' 420 = c420 th tr 0 nx tk pl va (-1) (nI c) 0 0 (-9) ∧ (∃ H' Y', h' 425 = cL 160 H' ∧ HV c G H' ∧ h' 426 = cL 480 Y' ∧ SV c c G Y')) := by
  refine r_iload_n rfl dX12_clauses_214 rfl ?_
  refine r_iconst (v := 4) rfl dX12_clauses_215 (by decide) ?_
  refine r_icmp_ge (tgt := 232) rfl rfl dX12_clauses_216 (fun _ => ?_) (fun zc => absurd (show nI (4) ≤ nI k from nI_le (a := 4) (b := k) (by omega) (by omega)) zc)
  refine r_iconst (v := 0) rfl dX12_clauses_232 (by decide) ?_
  refine r_istore_n (ls' := [some (.ref 420), some (.int (nI c)), some (.int 0)]) rfl dX12_clauses_233 (Nat.le_of_ble_eq_true rfl) rfl ?_
  exact z_cb2 hc c 0 h (by omega) hS hF h5 h22 h25 h26 h31
set_option maxRecDepth 20000 in
set_option maxHeartbeats 1000000 in
theorem z_cb1_s {xs : Nat → Int32} {L d : Nat} {h : ev_H} {h0 : ev_H} {th : Int32} {tr : Int64} {nx tk pl va : Int32} {c : Nat} {G : Nat → Int32} {H Y T : Nat → Int64} {k : Nat} (hS : SH h) (hc : c ≤ 16) (hF : KM [420, 425, 426, 427, 428, 429, 430, 431] h0 h) (h5 : h 420 = .inr (12, [.int th, .long tr, .ref 421, .int 0, .int nx, .int tk, .int pl, .int va, .int (-1), .int (nI c), .int 0, .int 0, .int (-9), .ref 422, .ref 423, .ref 424, .ref 425, .ref 426, .ref 427, .ref 428, .ref 429, .ref 430, .ref 431, .ref 432, .ref 433])) (h22 : h 422 = .inl (0, 240, .inl G)) (h25 : h 425 = .inl (1, 160, .inr (.inl H))) (h26 : h 426 = .inl (1, 480, .inr (.inl Y))) (h31 : h 431 = .inl (1, 4, .inr (.inl (hzR T 0 (k))))) (hk : k < 4) (ih : ∀ (h' : ev_H), SH h' → KM [420, 425, 426, 427, 428, 429, 430, 431] h0 h' → h' 420 = .inr (12, [.int th, .long tr, .ref 421, .int 0, .int nx, .int tk, .int pl, .int va, .int (-1), .int (nI c), .int 0, .int 0, .int (-9), .ref 422, .ref 423, .ref 424, .ref 425, .ref 426, .ref 427, .ref 428, .ref 429, .ref 430, .ref 431, .ref 432, .ref 433]) → h' 422 = .inl (0, 240, .inl G) → h' 425 = .inl (1, 160, .inr (.inl H)) → h' 426 = .inl (1, 480, .inr (.inl Y)) → h' 431 = .inl (1, 4, .inr (.inl (hzR T 0 (k + 1)))) → EV xs L (d + 3) 0 0 M_X12_clauses 434 h' 214 [some (.ref 420), some (.int (nI c)), some (.int (nI (k + 1)))] [] (fun sz' h' r => sz' = 434 ∧ SH h' ∧ KM [420, 425, 426, 427, 428, 429, 430, 431] h0 h' ∧ r = [.int (nI c)] ∧ h' 420 = c420 th tr 0 nx tk pl va (-1) (nI c) 0 0 (-9) ∧ (∃ H' Y', h' 425 = cL 160 H' ∧ HV c G H' ∧ h' 426 = cL 480 Y' ∧ SV c c G Y'))) : EV xs L (d + 3) 0 0 M_X12_clauses 434 h 214 [some (.ref 420), some (.int (nI c)), some (.int (nI k))] [] (fun sz' h' r => sz' = 434 ∧ SH h' ∧ KM [420, 425, 426, 427, 428, 429, 430, 431] h0 h' ∧ r = [.int (nI c)] ∧ h' 420 = c420 th tr 0 nx tk pl va (-1) (nI c) 0 0 (-9) ∧ (∃ H' Y', h' 425 = cL 160 H' ∧ HV c G H' ∧ h' 426 = cL 480 Y' ∧ SV c c G Y')) := by
  refine r_iload_n rfl dX12_clauses_214 rfl ?_
  refine r_iconst (v := 4) rfl dX12_clauses_215 (by decide) ?_
  refine r_icmp_ge (tgt := 232) rfl rfl dX12_clauses_216 (fun zc => absurd zc (show ¬ nI (4) ≤ nI k from nI_ge (a := k) (b := 4) (by omega) (by omega))) (fun _ => ?_)
  refine r_aload_n rfl dX12_clauses_219 rfl ?_
  refine r_getv 22 rfl dX12_clauses_220 (show 2 ≤ 420 ∧ 420 < 434 by decide) h5 fl_X12_45 rfl ?_
  refine r_iload_n rfl dX12_clauses_223 rfl ?_
  refine r_lconst (v := 0) rfl dX12_clauses_224 (by decide) ?_
  refine e_last (jn := k) rfl dX12_clauses_225 (show 2 ≤ 431 ∧ 431 < 434 by decide) hS hF (by decide) h31 (vp_in_nI (n := k) (by omega) (by decide)) (nI_clamp (n := k) (by omega)) (fun h51 hS52 hF53 hN54 f55 => ?_)
  have f56 : h51 420 = .inr (12, [.int th, .long tr, .ref 421, .int 0, .int nx, .int tk, .int pl, .int va, .int (-1), .int (nI c), .int 0, .int 0, .int (-9), .ref 422, .ref 423, .ref 424, .ref 425, .ref 426, .ref 427, .ref 428, .ref 429, .ref 430, .ref 431, .ref 432, .ref 433]) := (hN54 420 (by decide)).trans h5
  have f57 : h51 422 = .inl (0, 240, .inl G) := (hN54 422 (by decide)).trans h22
  have f58 : h51 425 = .inl (1, 160, .inr (.inl H)) := (hN54 425 (by decide)).trans h25
  have f59 : h51 426 = .inl (1, 480, .inr (.inl Y)) := (hN54 426 (by decide)).trans h26
  refine r_iinc (y := nI (k + 1)) (ls' := [some (.ref 420), some (.int (nI c)), some (.int (nI (k + 1)))]) rfl dX12_clauses_226 rfl (nI_1 k) (Nat.le_of_ble_eq_true rfl) rfl ?_
  refine r_goto (pc' := 214) rfl dX12_clauses_229 ?_
  exact ih h51 hS52 hF53 f56 f57 f58 f59 (by rw [← hzR_s, show 4 * 0 + k = k by omega]; exact f55)
theorem z_cb1 {xs : Nat → Int32} {L d : Nat} {h0 : ev_H} {th : Int32} {tr : Int64} {nx tk pl va : Int32} {c : Nat} {G : Nat → Int32} {H Y T : Nat → Int64} (hc : c ≤ 16) : ∀ (nn k : Nat) (h : ev_H), k + nn = 4 → SH h → KM [420, 425, 426, 427, 428, 429, 430, 431] h0 h → h 420 = .inr (12, [.int th, .long tr, .ref 421, .int 0, .int nx, .int tk, .int pl, .int va, .int (-1), .int (nI c), .int 0, .int 0, .int (-9), .ref 422, .ref 423, .ref 424, .ref 425, .ref 426, .ref 427, .ref 428, .ref 429, .ref 430, .ref 431, .ref 432, .ref 433]) → h 422 = .inl (0, 240, .inl G) → h 425 = .inl (1, 160, .inr (.inl H)) → h 426 = .inl (1, 480, .inr (.inl Y)) → h 431 = .inl (1, 4, .inr (.inl (hzR T 0 (k)))) → EV xs L (d + 3) 0 0 M_X12_clauses 434 h 214 [some (.ref 420), some (.int (nI c)), some (.int (nI k))] [] (fun sz' h' r => sz' = 434 ∧ SH h' ∧ KM [420, 425, 426, 427, 428, 429, 430, 431] h0 h' ∧ r = [.int (nI c)] ∧ h' 420 = c420 th tr 0 nx tk pl va (-1) (nI c) 0 0 (-9) ∧ (∃ H' Y', h' 425 = cL 160 H' ∧ HV c G H' ∧ h' 426 = cL 480 Y' ∧ SV c c G Y')) := by
  intro nn
  induction nn with
  | zero => intro k h hk hS hF h5 h22 h25 h26 h31; exact z_cb1_z hS hc hF h5 h22 h25 h26 h31 (by omega)
  | succ nn ih => intro k h hk hS hF h5 h22 h25 h26 h31; exact z_cb1_s hS hc hF h5 h22 h25 h26 h31 (by omega) (fun h' q0 q1 q2 q3 q4 q5 q6 => ih (k + 1) h' (by omega) q0 q1 q2 q3 q4 q5 q6)
set_option maxRecDepth 20000 in
set_option maxHeartbeats 1000000 in
theorem z_clauses_b {xs : Nat → Int32} {L d : Nat} {h : ev_H} {th : Int32} {tr : Int64} {ty nx tk pl va cl md ss wg : Int32} {c : Nat} {G : Nat → Int32} {H Y T : Nat → Int64} {u : Option Value} (hS : SH h) (h5 : h 420 = c420 th tr ty nx tk pl va (-1) cl md ss wg) (hc : c ≤ 16) (h22 : h 422 = cI 240 G) (h25 : h 425 = cL 160 H) (h26 : h 426 = cL 480 Y) (h31 : h 431 = cL 4 T) : EV xs L (d + 3) 0 0 M_X12_clauses 434 h 186 [some (.ref 420), some (.int (nI c)), u] [] (fun sz' h' r => sz' = 434 ∧ SH h' ∧ KM [420, 425, 426, 427, 428, 429, 430, 431] h h' ∧ r = [.int (nI c)] ∧ h' 420 = c420 th tr 0 nx tk pl va (-1) (nI c) 0 0 (-9) ∧ (∃ H' Y', h' 425 = cL 160 H' ∧ HV c G H' ∧ h' 426 = cL 480 Y' ∧ SV c c G Y')) := by
  refine r_aload_n rfl dX12_clauses_186 rfl ?_
  refine r_iload_n rfl dX12_clauses_187 rfl ?_
  refine e_put 9 (fs' := [.int th, .long tr, .ref 421, .int ty, .int nx, .int tk, .int pl, .int va, .int (-1), .int (nI c), .int md, .int ss, .int wg, .ref 422, .ref 423, .ref 424, .ref 425, .ref 426, .ref 427, .ref 428, .ref 429, .ref 430, .ref 431, .ref 432, .ref 433]) rfl dX12_clauses_188 (show 2 ≤ 420 ∧ 420 < 434 by decide) hS (KM_rf (Mod := [420, 425, 426, 427, 428, 429, 430, 431]) h) (by decide) h5 (fp_X12_112 rfl _) (Nat.le_of_ble_eq_true rfl) rfl (fun h51 hS52 hF53 hN54 f55 => ?_)
  have f56 : h51 422 = .inl (0, 240, .inl G) := (hN54 422 (by decide)).trans h22
  have f57 : h51 425 = .inl (1, 160, .inr (.inl H)) := (hN54 425 (by decide)).trans h25
  have f58 : h51 426 = .inl (1, 480, .inr (.inl Y)) := (hN54 426 (by decide)).trans h26
  have f59 : h51 431 = .inl (1, 4, .inr (.inl T)) := (hN54 431 (by decide)).trans h31
  refine r_aload_n rfl dX12_clauses_191 rfl ?_
  refine r_iconst (v := 0) rfl dX12_clauses_192 (by decide) ?_
  refine e_put 10 (fs' := [.int th, .long tr, .ref 421, .int ty, .int nx, .int tk, .int pl, .int va, .int (-1), .int (nI c), .int 0, .int ss, .int wg, .ref 422, .ref 423, .ref 424, .ref 425, .ref 426, .ref 427, .ref 428, .ref 429, .ref 430, .ref 431, .ref 432, .ref 433]) rfl dX12_clauses_193 (show 2 ≤ 420 ∧ 420 < 434 by decide) hS52 hF53 (by decide) f55 (fp_X12_115 rfl _) (Nat.le_of_ble_eq_true rfl) rfl (fun h60 hS61 hF62 hN63 f64 => ?_)
  have f65 : h60 422 = .inl (0, 240, .inl G) := (hN63 422 (by decide)).trans f56
  have f66 : h60 425 = .inl (1, 160, .inr (.inl H)) := (hN63 425 (by decide)).trans f57
  have f67 : h60 426 = .inl (1, 480, .inr (.inl Y)) := (hN63 426 (by decide)).trans f58
  have f68 : h60 431 = .inl (1, 4, .inr (.inl T)) := (hN63 431 (by decide)).trans f59
  refine r_aload_n rfl dX12_clauses_196 rfl ?_
  refine r_iconst (v := 0) rfl dX12_clauses_197 (by decide) ?_
  refine e_put 11 (fs' := [.int th, .long tr, .ref 421, .int ty, .int nx, .int tk, .int pl, .int va, .int (-1), .int (nI c), .int 0, .int 0, .int wg, .ref 422, .ref 423, .ref 424, .ref 425, .ref 426, .ref 427, .ref 428, .ref 429, .ref 430, .ref 431, .ref 432, .ref 433]) rfl dX12_clauses_198 (show 2 ≤ 420 ∧ 420 < 434 by decide) hS61 hF62 (by decide) f64 (fp_X12_118 rfl _) (Nat.le_of_ble_eq_true rfl) rfl (fun h69 hS70 hF71 hN72 f73 => ?_)
  have f74 : h69 422 = .inl (0, 240, .inl G) := (hN72 422 (by decide)).trans f65
  have f75 : h69 425 = .inl (1, 160, .inr (.inl H)) := (hN72 425 (by decide)).trans f66
  have f76 : h69 426 = .inl (1, 480, .inr (.inl Y)) := (hN72 426 (by decide)).trans f67
  have f77 : h69 431 = .inl (1, 4, .inr (.inl T)) := (hN72 431 (by decide)).trans f68
  refine r_aload_n rfl dX12_clauses_201 rfl ?_
  refine r_bipush (v := (-9)) rfl dX12_clauses_202 (by decide) ?_
  refine e_put 12 (fs' := [.int th, .long tr, .ref 421, .int ty, .int nx, .int tk, .int pl, .int va, .int (-1), .int (nI c), .int 0, .int 0, .int (-9), .ref 422, .ref 423, .ref 424, .ref 425, .ref 426, .ref 427, .ref 428, .ref 429, .ref 430, .ref 431, .ref 432, .ref 433]) rfl dX12_clauses_204 (show 2 ≤ 420 ∧ 420 < 434 by decide) hS70 hF71 (by decide) f73 (fp_X12_13 rfl _) (Nat.le_of_ble_eq_true rfl) rfl (fun h78 hS79 hF80 hN81 f82 => ?_)
  have f83 : h78 422 = .inl (0, 240, .inl G) := (hN81 422 (by decide)).trans f74
  have f84 : h78 425 = .inl (1, 160, .inr (.inl H)) := (hN81 425 (by decide)).trans f75
  have f85 : h78 426 = .inl (1, 480, .inr (.inl Y)) := (hN81 426 (by decide)).trans f76
  have f86 : h78 431 = .inl (1, 4, .inr (.inl T)) := (hN81 431 (by decide)).trans f77
  refine r_aload_n rfl dX12_clauses_207 rfl ?_
  refine r_iconst (v := 0) rfl dX12_clauses_208 (by decide) ?_
  refine e_put 3 (fs' := [.int th, .long tr, .ref 421, .int 0, .int nx, .int tk, .int pl, .int va, .int (-1), .int (nI c), .int 0, .int 0, .int (-9), .ref 422, .ref 423, .ref 424, .ref 425, .ref 426, .ref 427, .ref 428, .ref 429, .ref 430, .ref 431, .ref 432, .ref 433]) rfl dX12_clauses_209 (show 2 ≤ 420 ∧ 420 < 434 by decide) hS79 hF80 (by decide) f82 (fp_X12_64 rfl _) (Nat.le_of_ble_eq_true rfl) rfl (fun h87 hS88 hF89 hN90 f91 => ?_)
  have f92 : h87 422 = .inl (0, 240, .inl G) := (hN90 422 (by decide)).trans f83
  have f93 : h87 425 = .inl (1, 160, .inr (.inl H)) := (hN90 425 (by decide)).trans f84
  have f94 : h87 426 = .inl (1, 480, .inr (.inl Y)) := (hN90 426 (by decide)).trans f85
  have f95 : h87 431 = .inl (1, 4, .inr (.inl T)) := (hN90 431 (by decide)).trans f86
  refine r_iconst (v := 0) rfl dX12_clauses_212 (by decide) ?_
  refine r_istore_n (ls' := [some (.ref 420), some (.int (nI c)), some (.int 0)]) rfl dX12_clauses_213 (Nat.le_of_ble_eq_true rfl) rfl ?_
  exact z_cb1 hc 4 0 h87 rfl hS88 hF89 f91 f92 f93 f94 (by rw [hzR_0]; exact f95)
set_option maxRecDepth 20000 in
set_option maxHeartbeats 1000000 in
theorem z_ca_z {xs : Nat → Int32} {L d : Nat} {h : ev_H} {h0 : ev_H} {k : Nat} {D G : Nat → Int32} {th : Int32} {tr : Int64} {ty nx tk pl va cl md ss wg : Int32} {c : Nat} {H Y T : Nat → Int64} (hS : SH h) (hc : c ≤ 16) (hF : KM [420, 422, 425, 426, 427, 428, 429, 430, 431] h0 h) (h5 : h 420 = c420 th tr ty nx tk pl va (-1) cl md ss wg) (h22 : h 422 = cI 240 G) (h23 : h 423 = cI 48 D) (h25 : h 425 = cL 160 H) (h26 : h 426 = cL 480 Y) (h31 : h 431 = cL 4 T) (hG : ∀ x, x < 6 * k → G x = dG D x) (hk : k = c) : EV xs L (d + 3) 0 0 M_X12_clauses 434 h 77 [some (.ref 420), some (.int (nI c)), some (.int (nI k))] [] (fun sz' h' r => sz' = 434 ∧ SH h' ∧ KM [420, 422, 425, 426, 427, 428, 429, 430, 431] h0 h' ∧ r = [.int (nI c)] ∧ h' 420 = c420 th tr 0 nx tk pl va (-1) (nI c) 0 0 (-9) ∧ ∃ G', h' 422 = cI 240 G' ∧ (∀ x, x < 6 * c → G' x = dG D x) ∧ (∃ H' Y', h' 425 = cL 160 H' ∧ HV c G' H' ∧ h' 426 = cL 480 Y' ∧ SV c c G' Y')) := by
  refine r_iload_n rfl dX12_clauses_77 rfl ?_
  refine r_iload_n rfl dX12_clauses_78 rfl ?_
  refine r_icmp_ge (tgt := 186) rfl rfl dX12_clauses_79 (fun _ => ?_) (fun zc => absurd (show nI c ≤ nI k from nI_le (a := c) (b := k) (by omega) (by omega)) zc)
  refine EV.post ?_ (z_clauses_b hS h5 hc h22 h25 h26 h31)
  rintro a1 a2 a3 ⟨b1, b2, b3, b4, b5, b6⟩
  exact ⟨b1, b2, KM_tr hF (KM_sb (by decide) b3), b4, b5, G, (b3 422 (by decide)).trans h22, by rw [← hk]; exact hG, b6⟩
set_option maxRecDepth 20000 in
set_option maxHeartbeats 1000000 in
theorem z_ca_s {xs : Nat → Int32} {L d : Nat} {h : ev_H} {h0 : ev_H} {k : Nat} {D G : Nat → Int32} {th : Int32} {tr : Int64} {ty nx tk pl va cl md ss wg : Int32} {c : Nat} {H Y T : Nat → Int64} (hS : SH h) (hc : c ≤ 16) (hF : KM [420, 422, 425, 426, 427, 428, 429, 430, 431] h0 h) (h5 : h 420 = c420 th tr ty nx tk pl va (-1) cl md ss wg) (h22 : h 422 = cI 240 G) (h23 : h 423 = cI 48 D) (h25 : h 425 = cL 160 H) (h26 : h 426 = cL 480 Y) (h31 : h 431 = cL 4 T) (hG : ∀ x, x < 6 * k → G x = dG D x) (hk : k < c) (ih : ∀ (h' : ev_H) (G' : Nat → Int32), SH h' → KM [420, 422, 425, 426, 427, 428, 429, 430, 431] h0 h' → h' 420 = c420 th tr ty nx tk pl va (-1) cl md ss wg → h' 422 = cI 240 G' → h' 423 = cI 48 D → h' 425 = cL 160 H → h' 426 = cL 480 Y → h' 431 = cL 4 T → (∀ x, x < 6 * (k + 1) → G' x = dG D x) → EV xs L (d + 3) 0 0 M_X12_clauses 434 h' 77 [some (.ref 420), some (.int (nI c)), some (.int (nI (k + 1)))] [] (fun sz' h' r => sz' = 434 ∧ SH h' ∧ KM [420, 422, 425, 426, 427, 428, 429, 430, 431] h0 h' ∧ r = [.int (nI c)] ∧ h' 420 = c420 th tr 0 nx tk pl va (-1) (nI c) 0 0 (-9) ∧ ∃ G', h' 422 = cI 240 G' ∧ (∀ x, x < 6 * c → G' x = dG D x) ∧ (∃ H' Y', h' 425 = cL 160 H' ∧ HV c G' H' ∧ h' 426 = cL 480 Y' ∧ SV c c G' Y'))) : EV xs L (d + 3) 0 0 M_X12_clauses 434 h 77 [some (.ref 420), some (.int (nI c)), some (.int (nI k))] [] (fun sz' h' r => sz' = 434 ∧ SH h' ∧ KM [420, 422, 425, 426, 427, 428, 429, 430, 431] h0 h' ∧ r = [.int (nI c)] ∧ h' 420 = c420 th tr 0 nx tk pl va (-1) (nI c) 0 0 (-9) ∧ ∃ G', h' 422 = cI 240 G' ∧ (∀ x, x < 6 * c → G' x = dG D x) ∧ (∃ H' Y', h' 425 = cL 160 H' ∧ HV c G' H' ∧ h' 426 = cL 480 Y' ∧ SV c c G' Y')) := by
  refine r_iload_n rfl dX12_clauses_77 rfl ?_
  refine r_iload_n rfl dX12_clauses_78 rfl ?_
  refine r_icmp_ge (tgt := 186) rfl rfl dX12_clauses_79 (fun zc => absurd zc (show ¬ nI c ≤ nI k from nI_ge (a := k) (b := c) (by omega) (by omega))) (fun _ => ?_)
  refine r_aload_n rfl dX12_clauses_82 rfl ?_
  refine r_getv 13 rfl dX12_clauses_83 (show 2 ≤ 420 ∧ 420 < 434 by decide) h5 fl_X12_17 rfl ?_
  refine r_bipush (v := 6) rfl dX12_clauses_86 (by decide) ?_
  refine r_iload_n rfl dX12_clauses_88 rfl ?_
  refine r_imul rfl dX12_clauses_89 ?_
  refine r_eqi (y := nI (6 * k)) (show 6 * (nI k) = nI (6 * k) from pk_mul 6 k) ?_
  refine r_aload_n rfl dX12_clauses_90 rfl ?_
  refine r_getv 14 rfl dX12_clauses_91 (show 2 ≤ 420 ∧ 420 < 434 by decide) h5 fl_X12_20 rfl ?_
  refine r_iconst (v := 3) rfl dX12_clauses_94 (by decide) ?_
  refine r_iload_n rfl dX12_clauses_95 rfl ?_
  refine r_imul rfl dX12_clauses_96 ?_
  refine r_eqi (y := nI (3 * k)) (show 3 * (nI k) = nI (3 * k) from pk_mul 3 k) ?_
  refine r_ialdv (jn := 3 * k) (v := D (3 * k)) rfl dX12_clauses_97 (show 2 ≤ 423 ∧ 423 < 434 by decide) h23 (vp_in_nI (n := 3 * k) (by omega) (by decide)) (nI_clamp (n := 3 * k) (by omega)) rfl ?_
  refine e_iast (jn := 6 * k) rfl dX12_clauses_98 (show 2 ≤ 422 ∧ 422 < 434 by decide) hS hF (by decide) h22 (vp_in_nI (n := 6 * k) (by omega) (by decide)) (nI_clamp (n := 6 * k) (by omega)) (fun h51 hS52 hF53 hN54 f55 => ?_)
  have f56 : h51 420 = .inr (12, [.int th, .long tr, .ref 421, .int ty, .int nx, .int tk, .int pl, .int va, .int (-1), .int cl, .int md, .int ss, .int wg, .ref 422, .ref 423, .ref 424, .ref 425, .ref 426, .ref 427, .ref 428, .ref 429, .ref 430, .ref 431, .ref 432, .ref 433]) := (hN54 420 (by decide)).trans h5
  have f57 : h51 423 = .inl (0, 48, .inl D) := (hN54 423 (by decide)).trans h23
  have f58 : h51 425 = .inl (1, 160, .inr (.inl H)) := (hN54 425 (by decide)).trans h25
  have f59 : h51 426 = .inl (1, 480, .inr (.inl Y)) := (hN54 426 (by decide)).trans h26
  have f60 : h51 431 = .inl (1, 4, .inr (.inl T)) := (hN54 431 (by decide)).trans h31
  refine r_aload_n rfl dX12_clauses_99 rfl ?_
  refine r_getv 13 rfl dX12_clauses_100 (show 2 ≤ 420 ∧ 420 < 434 by decide) f56 fl_X12_17 rfl ?_
  refine r_bipush (v := 6) rfl dX12_clauses_103 (by decide) ?_
  refine r_iload_n rfl dX12_clauses_105 rfl ?_
  refine r_imul rfl dX12_clauses_106 ?_
  refine r_eqi (y := nI (6 * k)) (show 6 * (nI k) = nI (6 * k) from pk_mul 6 k) ?_
  refine r_iconst (v := 1) rfl dX12_clauses_107 (by decide) ?_
  refine r_iadd rfl dX12_clauses_108 ?_
  refine r_eqi (y := nI ((6 * k) + 1)) (show (nI (6 * k)) + 1 = nI ((6 * k) + 1) from nI_add (6 * k) 1) ?_
  refine r_aload_n rfl dX12_clauses_109 rfl ?_
  refine r_getv 14 rfl dX12_clauses_110 (show 2 ≤ 420 ∧ 420 < 434 by decide) f56 fl_X12_20 rfl ?_
  refine r_iconst (v := 3) rfl dX12_clauses_113 (by decide) ?_
  refine r_iload_n rfl dX12_clauses_114 rfl ?_
  refine r_imul rfl dX12_clauses_115 ?_
  refine r_eqi (y := nI (3 * k)) (show 3 * (nI k) = nI (3 * k) from pk_mul 3 k) ?_
  refine r_iconst (v := 1) rfl dX12_clauses_116 (by decide) ?_
  refine r_iadd rfl dX12_clauses_117 ?_
  refine r_eqi (y := nI ((3 * k) + 1)) (show (nI (3 * k)) + 1 = nI ((3 * k) + 1) from nI_add (3 * k) 1) ?_
  refine r_ialdv (jn := (3 * k) + 1) (v := D ((3 * k) + 1)) rfl dX12_clauses_118 (show 2 ≤ 423 ∧ 423 < 434 by decide) f57 (vp_in_nI (n := (3 * k) + 1) (by omega) (by decide)) (nI_clamp (n := (3 * k) + 1) (by omega)) rfl ?_
  refine e_iast (jn := (6 * k) + 1) rfl dX12_clauses_119 (show 2 ≤ 422 ∧ 422 < 434 by decide) hS52 hF53 (by decide) f55 (vp_in_nI (n := (6 * k) + 1) (by omega) (by decide)) (nI_clamp (n := (6 * k) + 1) (by omega)) (fun h61 hS62 hF63 hN64 f65 => ?_)
  have f66 : h61 420 = .inr (12, [.int th, .long tr, .ref 421, .int ty, .int nx, .int tk, .int pl, .int va, .int (-1), .int cl, .int md, .int ss, .int wg, .ref 422, .ref 423, .ref 424, .ref 425, .ref 426, .ref 427, .ref 428, .ref 429, .ref 430, .ref 431, .ref 432, .ref 433]) := (hN64 420 (by decide)).trans f56
  have f67 : h61 423 = .inl (0, 48, .inl D) := (hN64 423 (by decide)).trans f57
  have f68 : h61 425 = .inl (1, 160, .inr (.inl H)) := (hN64 425 (by decide)).trans f58
  have f69 : h61 426 = .inl (1, 480, .inr (.inl Y)) := (hN64 426 (by decide)).trans f59
  have f70 : h61 431 = .inl (1, 4, .inr (.inl T)) := (hN64 431 (by decide)).trans f60
  refine r_aload_n rfl dX12_clauses_120 rfl ?_
  refine r_getv 13 rfl dX12_clauses_121 (show 2 ≤ 420 ∧ 420 < 434 by decide) f66 fl_X12_17 rfl ?_
  refine r_bipush (v := 6) rfl dX12_clauses_124 (by decide) ?_
  refine r_iload_n rfl dX12_clauses_126 rfl ?_
  refine r_imul rfl dX12_clauses_127 ?_
  refine r_eqi (y := nI (6 * k)) (show 6 * (nI k) = nI (6 * k) from pk_mul 6 k) ?_
  refine r_iconst (v := 2) rfl dX12_clauses_128 (by decide) ?_
  refine r_iadd rfl dX12_clauses_129 ?_
  refine r_eqi (y := nI ((6 * k) + 2)) (show (nI (6 * k)) + 2 = nI ((6 * k) + 2) from nI_add (6 * k) 2) ?_
  refine r_aload_n rfl dX12_clauses_130 rfl ?_
  refine r_getv 14 rfl dX12_clauses_131 (show 2 ≤ 420 ∧ 420 < 434 by decide) f66 fl_X12_20 rfl ?_
  refine r_iconst (v := 3) rfl dX12_clauses_134 (by decide) ?_
  refine r_iload_n rfl dX12_clauses_135 rfl ?_
  refine r_imul rfl dX12_clauses_136 ?_
  refine r_eqi (y := nI (3 * k)) (show 3 * (nI k) = nI (3 * k) from pk_mul 3 k) ?_
  refine r_iconst (v := 2) rfl dX12_clauses_137 (by decide) ?_
  refine r_iadd rfl dX12_clauses_138 ?_
  refine r_eqi (y := nI ((3 * k) + 2)) (show (nI (3 * k)) + 2 = nI ((3 * k) + 2) from nI_add (3 * k) 2) ?_
  refine r_ialdv (jn := (3 * k) + 2) (v := D ((3 * k) + 2)) rfl dX12_clauses_139 (show 2 ≤ 423 ∧ 423 < 434 by decide) f67 (vp_in_nI (n := (3 * k) + 2) (by omega) (by decide)) (nI_clamp (n := (3 * k) + 2) (by omega)) rfl ?_
  refine e_iast (jn := (6 * k) + 2) rfl dX12_clauses_140 (show 2 ≤ 422 ∧ 422 < 434 by decide) hS62 hF63 (by decide) f65 (vp_in_nI (n := (6 * k) + 2) (by omega) (by decide)) (nI_clamp (n := (6 * k) + 2) (by omega)) (fun h71 hS72 hF73 hN74 f75 => ?_)
  have f76 : h71 420 = .inr (12, [.int th, .long tr, .ref 421, .int ty, .int nx, .int tk, .int pl, .int va, .int (-1), .int cl, .int md, .int ss, .int wg, .ref 422, .ref 423, .ref 424, .ref 425, .ref 426, .ref 427, .ref 428, .ref 429, .ref 430, .ref 431, .ref 432, .ref 433]) := (hN74 420 (by decide)).trans f66
  have f77 : h71 423 = .inl (0, 48, .inl D) := (hN74 423 (by decide)).trans f67
  have f78 : h71 425 = .inl (1, 160, .inr (.inl H)) := (hN74 425 (by decide)).trans f68
  have f79 : h71 426 = .inl (1, 480, .inr (.inl Y)) := (hN74 426 (by decide)).trans f69
  have f80 : h71 431 = .inl (1, 4, .inr (.inl T)) := (hN74 431 (by decide)).trans f70
  refine r_aload_n rfl dX12_clauses_141 rfl ?_
  refine r_getv 13 rfl dX12_clauses_142 (show 2 ≤ 420 ∧ 420 < 434 by decide) f76 fl_X12_17 rfl ?_
  refine r_bipush (v := 6) rfl dX12_clauses_145 (by decide) ?_
  refine r_iload_n rfl dX12_clauses_147 rfl ?_
  refine r_imul rfl dX12_clauses_148 ?_
  refine r_eqi (y := nI (6 * k)) (show 6 * (nI k) = nI (6 * k) from pk_mul 6 k) ?_
  refine r_iconst (v := 3) rfl dX12_clauses_149 (by decide) ?_
  refine r_iadd rfl dX12_clauses_150 ?_
  refine r_eqi (y := nI ((6 * k) + 3)) (show (nI (6 * k)) + 3 = nI ((6 * k) + 3) from nI_add (6 * k) 3) ?_
  refine r_bipush (v := (-9)) rfl dX12_clauses_151 (by decide) ?_
  refine e_iast (jn := (6 * k) + 3) rfl dX12_clauses_153 (show 2 ≤ 422 ∧ 422 < 434 by decide) hS72 hF73 (by decide) f75 (vp_in_nI (n := (6 * k) + 3) (by omega) (by decide)) (nI_clamp (n := (6 * k) + 3) (by omega)) (fun h81 hS82 hF83 hN84 f85 => ?_)
  have f86 : h81 420 = .inr (12, [.int th, .long tr, .ref 421, .int ty, .int nx, .int tk, .int pl, .int va, .int (-1), .int cl, .int md, .int ss, .int wg, .ref 422, .ref 423, .ref 424, .ref 425, .ref 426, .ref 427, .ref 428, .ref 429, .ref 430, .ref 431, .ref 432, .ref 433]) := (hN84 420 (by decide)).trans f76
  have f87 : h81 423 = .inl (0, 48, .inl D) := (hN84 423 (by decide)).trans f77
  have f88 : h81 425 = .inl (1, 160, .inr (.inl H)) := (hN84 425 (by decide)).trans f78
  have f89 : h81 426 = .inl (1, 480, .inr (.inl Y)) := (hN84 426 (by decide)).trans f79
  have f90 : h81 431 = .inl (1, 4, .inr (.inl T)) := (hN84 431 (by decide)).trans f80
  refine r_aload_n rfl dX12_clauses_154 rfl ?_
  refine r_getv 13 rfl dX12_clauses_155 (show 2 ≤ 420 ∧ 420 < 434 by decide) f86 fl_X12_17 rfl ?_
  refine r_bipush (v := 6) rfl dX12_clauses_158 (by decide) ?_
  refine r_iload_n rfl dX12_clauses_160 rfl ?_
  refine r_imul rfl dX12_clauses_161 ?_
  refine r_eqi (y := nI (6 * k)) (show 6 * (nI k) = nI (6 * k) from pk_mul 6 k) ?_
  refine r_iconst (v := 4) rfl dX12_clauses_162 (by decide) ?_
  refine r_iadd rfl dX12_clauses_163 ?_
  refine r_eqi (y := nI ((6 * k) + 4)) (show (nI (6 * k)) + 4 = nI ((6 * k) + 4) from nI_add (6 * k) 4) ?_
  refine r_bipush (v := (-9)) rfl dX12_clauses_164 (by decide) ?_
  refine e_iast (jn := (6 * k) + 4) rfl dX12_clauses_166 (show 2 ≤ 422 ∧ 422 < 434 by decide) hS82 hF83 (by decide) f85 (vp_in_nI (n := (6 * k) + 4) (by omega) (by decide)) (nI_clamp (n := (6 * k) + 4) (by omega)) (fun h91 hS92 hF93 hN94 f95 => ?_)
  have f96 : h91 420 = .inr (12, [.int th, .long tr, .ref 421, .int ty, .int nx, .int tk, .int pl, .int va, .int (-1), .int cl, .int md, .int ss, .int wg, .ref 422, .ref 423, .ref 424, .ref 425, .ref 426, .ref 427, .ref 428, .ref 429, .ref 430, .ref 431, .ref 432, .ref 433]) := (hN94 420 (by decide)).trans f86
  have f97 : h91 423 = .inl (0, 48, .inl D) := (hN94 423 (by decide)).trans f87
  have f98 : h91 425 = .inl (1, 160, .inr (.inl H)) := (hN94 425 (by decide)).trans f88
  have f99 : h91 426 = .inl (1, 480, .inr (.inl Y)) := (hN94 426 (by decide)).trans f89
  have f100 : h91 431 = .inl (1, 4, .inr (.inl T)) := (hN94 431 (by decide)).trans f90
  refine r_aload_n rfl dX12_clauses_167 rfl ?_
  refine r_getv 13 rfl dX12_clauses_168 (show 2 ≤ 420 ∧ 420 < 434 by decide) f96 fl_X12_17 rfl ?_
  refine r_bipush (v := 6) rfl dX12_clauses_171 (by decide) ?_
  refine r_iload_n rfl dX12_clauses_173 rfl ?_
  refine r_imul rfl dX12_clauses_174 ?_
  refine r_eqi (y := nI (6 * k)) (show 6 * (nI k) = nI (6 * k) from pk_mul 6 k) ?_
  refine r_iconst (v := 5) rfl dX12_clauses_175 (by decide) ?_
  refine r_iadd rfl dX12_clauses_176 ?_
  refine r_eqi (y := nI ((6 * k) + 5)) (show (nI (6 * k)) + 5 = nI ((6 * k) + 5) from nI_add (6 * k) 5) ?_
  refine r_bipush (v := (-9)) rfl dX12_clauses_177 (by decide) ?_
  refine e_iast (jn := (6 * k) + 5) rfl dX12_clauses_179 (show 2 ≤ 422 ∧ 422 < 434 by decide) hS92 hF93 (by decide) f95 (vp_in_nI (n := (6 * k) + 5) (by omega) (by decide)) (nI_clamp (n := (6 * k) + 5) (by omega)) (fun h101 hS102 hF103 hN104 f105 => ?_)
  have f106 : h101 420 = .inr (12, [.int th, .long tr, .ref 421, .int ty, .int nx, .int tk, .int pl, .int va, .int (-1), .int cl, .int md, .int ss, .int wg, .ref 422, .ref 423, .ref 424, .ref 425, .ref 426, .ref 427, .ref 428, .ref 429, .ref 430, .ref 431, .ref 432, .ref 433]) := (hN104 420 (by decide)).trans f96
  have f107 : h101 423 = .inl (0, 48, .inl D) := (hN104 423 (by decide)).trans f97
  have f108 : h101 425 = .inl (1, 160, .inr (.inl H)) := (hN104 425 (by decide)).trans f98
  have f109 : h101 426 = .inl (1, 480, .inr (.inl Y)) := (hN104 426 (by decide)).trans f99
  have f110 : h101 431 = .inl (1, 4, .inr (.inl T)) := (hN104 431 (by decide)).trans f100
  refine r_iinc (y := nI (k + 1)) (ls' := [some (.ref 420), some (.int (nI c)), some (.int (nI (k + 1)))]) rfl dX12_clauses_180 rfl (nI_1 k) (Nat.le_of_ble_eq_true rfl) rfl ?_
  refine r_goto (pc' := 77) rfl dX12_clauses_183 ?_
  exact ih h101 _ hS102 hF103 f106 f105 f107 f108 f109 f110 (dG_s hG)
theorem z_ca {xs : Nat → Int32} {L d : Nat} {h0 : ev_H} {D : Nat → Int32} {th : Int32} {tr : Int64} {ty nx tk pl va cl md ss wg : Int32} {c : Nat} {H Y T : Nat → Int64} (hc : c ≤ 16) : ∀ (n k : Nat) (h : ev_H) (G : Nat → Int32), k + n = c → SH h → KM [420, 422, 425, 426, 427, 428, 429, 430, 431] h0 h → h 420 = c420 th tr ty nx tk pl va (-1) cl md ss wg → h 422 = cI 240 G → h 423 = cI 48 D → h 425 = cL 160 H → h 426 = cL 480 Y → h 431 = cL 4 T → (∀ x, x < 6 * k → G x = dG D x) → EV xs L (d + 3) 0 0 M_X12_clauses 434 h 77 [some (.ref 420), some (.int (nI c)), some (.int (nI k))] [] (fun sz' h' r => sz' = 434 ∧ SH h' ∧ KM [420, 422, 425, 426, 427, 428, 429, 430, 431] h0 h' ∧ r = [.int (nI c)] ∧ h' 420 = c420 th tr 0 nx tk pl va (-1) (nI c) 0 0 (-9) ∧ ∃ G', h' 422 = cI 240 G' ∧ (∀ x, x < 6 * c → G' x = dG D x) ∧ (∃ H' Y', h' 425 = cL 160 H' ∧ HV c G' H' ∧ h' 426 = cL 480 Y' ∧ SV c c G' Y')) := by
  intro n
  induction n with
  | zero => intro k h G hk hS hF h5 h22 h23 h25 h26 h31 hG; exact z_ca_z hS hc hF h5 h22 h23 h25 h26 h31 hG (by omega)
  | succ n ih => intro k h G hk hS hF h5 h22 h23 h25 h26 h31 hG; exact z_ca_s hS hc hF h5 h22 h23 h25 h26 h31 hG (by omega) (fun h' G' q1 q2 q3 q4 q5 q6 q7 q8 q9 => ih (k + 1) h' G' (by omega) q1 q2 q3 q4 q5 q6 q7 q8 q9)
set_option maxRecDepth 20000 in
set_option maxHeartbeats 1000000 in
theorem z_clauses_t {xs : Nat → Int32} {L d : Nat} {h : ev_H} {D G : Nat → Int32} {th : Int32} {tr : Int64} {ty nx tk pl va cl md ss wg : Int32} {c : Nat} {H Y T : Nat → Int64} (hS : SH h) (hc : c ≤ 16) (h5 : h 420 = c420 th tr ty nx tk pl va (-1) cl md ss wg) (h22 : h 422 = cI 240 G) (h23 : h 423 = cI 48 D) (h25 : h 425 = cL 160 H) (h26 : h 426 = cL 480 Y) (h31 : h 431 = cL 4 T) : EV xs L (d + 3) 0 0 M_X12_clauses 434 h 60 [some (.ref 420), some (.int (nI c)), none] [] (fun sz' h' r => sz' = 434 ∧ SH h' ∧ KM [420, 422, 425, 426, 427, 428, 429, 430, 431] h h' ∧ r = [.int (nI c)] ∧ h' 420 = c420 th tr 0 nx tk pl va (-1) (nI c) 0 0 (-9) ∧ ∃ G', h' 422 = cI 240 G' ∧ (∀ x, x < 6 * c → G' x = dG D x) ∧ (∃ H' Y', h' 425 = cL 160 H' ∧ HV c G' H' ∧ h' 426 = cL 480 Y' ∧ SV c c G' Y')) := by
  refine r_aload_n rfl dX12_clauses_60 rfl ?_
  refine cl_X12_92 rfl rfl dX12_clauses_61 (show 2 ≤ 420 ∧ 420 < 434 by decide).1 (show 2 ≤ 420 ∧ 420 < 434 by decide).2 h5 (Nat.le_of_ble_eq_true rfl) (s_X12_isWell1 hS h5) ?_
  rintro _ h51 _ ⟨rfl, e52, rfl⟩
  replace e52 := e52.symm
  subst e52
  refine r_if_ne (tgt := 75) rfl rfl dX12_clauses_64 (fun _ => ?_) (fun zc => absurd zc (by decide))
  refine r_iconst (v := 0) rfl dX12_clauses_75 (by decide) ?_
  refine r_istore_n (ls' := [some (.ref 420), some (.int (nI c)), some (.int 0)]) rfl dX12_clauses_76 (Nat.le_of_ble_eq_true rfl) rfl ?_
  exact z_ca hc c 0 h G (by omega) hS (KM_rf (Mod := [420, 422, 425, 426, 427, 428, 429, 430, 431]) h) h5 h22 h23 h25 h26 h31 (fun x hx => absurd hx (by omega))
set_option maxRecDepth 20000 in
set_option maxHeartbeats 1000000 in
theorem z_X12_clauses {xs : Nat → Int32} {L d : Nat} {h : ev_H} {th : Int32} {tr : Int64} {nx tk pl va fa cl md ss wg : Int32} {f g : Nat → Int32} {n : Nat} {D G A B C : Nat → Int32} {H Y T : Nat → Int64} (hS : SH h) (hX : TXR f g n) (h5 : h 420 = c420 th tr (nI n) nx tk pl va fa cl md ss wg) (h6 : h 421 = c421 g) (h22 : h 422 = cI 240 G) (h7 : h 423 = cI 48 D) (h25 : h 425 = cL 160 H) (h26 : h 426 = cL 480 Y) (h31 : h 431 = cL 4 T) : EV xs L (d + 5) 0 0 M_X12_clauses 434 h 0 [some (.ref 420), none, none] [] (fun sz' h' r => sz' = 434 ∧ SH h' ∧ KM [420, 422, 423, 425, 426, 427, 428, 429, 430, 431] h h' ∧ (((csL f n 16 0 0 A B C).1 = -1 ∧ (csL f n 16 0 0 A B C).2.1 ≤ 16 ∧ r = [.int (nI (csL f n 16 0 0 A B C).2.1)] ∧ (∃ nx tk pl va, h' 420 = c420 0 tr 0 nx tk pl va (-1) (nI (csL f n 16 0 0 A B C).2.1) 0 0 (-9)) ∧ ∃ G', h' 422 = cI 240 G' ∧ (∀ x, x < 6 * (csL f n 16 0 0 A B C).2.1 → G' x = clG (csL f n 16 0 0 A B C).2.2.1 (csL f n 16 0 0 A B C).2.2.2.1 (csL f n 16 0 0 A B C).2.2.2.2 x) ∧ (∃ H' Y', h' 425 = cL 160 H' ∧ HV (csL f n 16 0 0 A B C).2.1 G' H' ∧ h' 426 = cL 480 Y' ∧ SV (csL f n 16 0 0 A B C).2.1 (csL f n 16 0 0 A B C).2.1 G' Y')) ∨ (∃ q, q ≤ 300 ∧ (csL f n 16 0 0 A B C).1 = nI q ∧ r = [.int (-10 - nI q)] ∧ (∃ nx tk pl va, h' 420 = c420 0 tr (nI n) nx tk pl va (nI q) cl md ss wg) ∧ h' 422 = cI 240 G ∧ h' 425 = cL 160 H ∧ h' 426 = cL 480 Y))) := by
  refine r_aload_n rfl dX12_clauses_0 rfl ?_
  refine r_iconst (v := 0) rfl dX12_clauses_1 (by decide) ?_
  refine e_put 0 (fs' := [.int 0, .long tr, .ref 421, .int (nI n), .int nx, .int tk, .int pl, .int va, .int fa, .int cl, .int md, .int ss, .int wg, .ref 422, .ref 423, .ref 424, .ref 425, .ref 426, .ref 427, .ref 428, .ref 429, .ref 430, .ref 431, .ref 432, .ref 433]) rfl dX12_clauses_2 (show 2 ≤ 420 ∧ 420 < 434 by decide) hS (KM_rf (Mod := [420, 422, 423, 425, 426, 427, 428, 429, 430, 431]) h) (by decide) h5 (fp_X12_57 rfl _) (Nat.le_of_ble_eq_true rfl) rfl (fun h51 hS52 hF53 hN54 f55 => ?_)
  have f56 : h51 421 = .inl (0, 300, .inl g) := (hN54 421 (by decide)).trans h6
  have f57 : h51 422 = .inl (0, 240, .inl G) := (hN54 422 (by decide)).trans h22
  have f58 : h51 423 = .inl (0, 48, .inl D) := (hN54 423 (by decide)).trans h7
  have f59 : h51 425 = .inl (1, 160, .inr (.inl H)) := (hN54 425 (by decide)).trans h25
  have f60 : h51 426 = .inl (1, 480, .inr (.inl Y)) := (hN54 426 (by decide)).trans h26
  have f61 : h51 431 = .inl (1, 4, .inr (.inl T)) := (hN54 431 (by decide)).trans h31
  refine r_iconst (v := 0) rfl dX12_clauses_5 (by decide) ?_
  refine r_istore_n (ls' := [some (.ref 420), some (.int 0), none]) rfl dX12_clauses_6 (Nat.le_of_ble_eq_true rfl) rfl ?_
  refine r_aload_n rfl dX12_clauses_7 rfl ?_
  refine cl_X12_106 rfl rfl dX12_clauses_8 (show 2 ≤ 420 ∧ 420 < 434 by decide).1 (show 2 ≤ 420 ∧ 420 < 434 by decide).2 f55 (Nat.le_of_ble_eq_true rfl) (s_X12_begins hS52 hX f55 f56) ?_
  rintro _ h62 _ ⟨rfl, hS63, hK64, ⟨w67, f65, hw68⟩, rfl⟩
  have hF66 := KM_tr hF53 (KM_sb (by decide) hK64)
  have hl69 := (rdS_le f (Nat.zero_le n)).2
  have f70 : h62 421 = .inl (0, 300, .inl g) := (hK64 421 (by decide)).trans f56
  have f71 : h62 422 = .inl (0, 240, .inl G) := (hK64 422 (by decide)).trans f57
  have f72 : h62 423 = .inl (0, 48, .inl D) := (hK64 423 (by decide)).trans f58
  have f73 : h62 425 = .inl (1, 160, .inr (.inl H)) := (hK64 425 (by decide)).trans f59
  have f74 : h62 426 = .inl (1, 480, .inr (.inl Y)) := (hK64 426 (by decide)).trans f60
  have f75 : h62 431 = .inl (1, 4, .inr (.inl T)) := (hK64 431 (by decide)).trans f61
  refine s_X12_clauses_loop (h0 := h62) (RES := (csL f n 16 0 0 A B C)) hX ?_ ?_ 16 0 0 A B C _ D h62 rfl (Nat.zero_le n) hS63 (KM_rf _) f65 hw68 f70 f72 (fun j z => absurd z (by omega)) rfl
  · intro h1 D' nx1 tk1 pl1 va1 hS1 hF1 g5 g7 hr hD hle
    refine EV.post ?_ (z_clauses_t (d := d + 2) hS1 hle g5 ((hF1 422 (by decide)).trans f71) g7 ((hF1 425 (by decide)).trans f73) ((hF1 426 (by decide)).trans f74) ((hF1 431 (by decide)).trans f75))
    rintro a1 a2 a3 ⟨b1, b2, b3, b4, b5, G', b6, b7, b8⟩
    exact ⟨b1, b2, KM_tr hF66 (KM_tr (KM_sb (by decide) hF1) (KM_sb (by decide) b3)), Or.inl ⟨hr, hle, b4, ⟨_, _, _, _, b5⟩, G', b6, fun x hx => (b7 x hx).trans (dG_cl hD hx), b8⟩⟩
  · intro h1 x nx1 tk1 pl1 va1 q hS1 hF1 g5 hq hr
    refine EV.post ?_ (s_X12_clauses_fault (d := d + 4) hS1 g5 (by omega))
    rintro a1 a2 a3 ⟨b1, b2, b3, b4, b5⟩
    subst b4
    exact ⟨b1, b2, KM_tr hF66 (KM_sb (by decide) hF1), Or.inr ⟨q, hq, hr, b5, ⟨_, _, _, _, g5⟩, ((hF1 422 (by decide)).trans f71), ((hF1 425 (by decide)).trans f73), ((hF1 426 (by decide)).trans f74)⟩⟩
