def liM (G : Nat → Int32) (i : Nat) : Int32 := onM (G (6 * i)) 16 + onM (G (6 * i + 1)) 16
def leM (G : Nat → Int32) (Y : Nat → Int64) (i : Nat) : Int32 := liM G i + nI (mnN (fun p => Y (4 * i + p)) 256)
/-- what labour answers -/
def lbN (G : Nat → Int32) (Y : Nat → Int64) (k : Nat) (x y : Int32) : Int32 := if inR x 0 3 = 0 then -1 else if inR y 0 (nI k - 1) = 0 then -1 else if x = 0 then liM G y.toNatClampNeg else if x = 1 then leM G Y y.toNatClampNeg else if x = 2 then 2 * liM G y.toNatClampNeg + 1 else leM G Y y.toNatClampNeg / 2
theorem mnN_cg {A B : Nat → Int64} : ∀ k, k ≤ 256 → (∀ p, p < 4 → A p = B p) → mnN A k = mnN B k
  | 0, _, _ => rfl
  | k + 1, hk, h => by rw [mnN, mnN, mnN_cg k (by omega) h, h (k / 64) (by omega)]
set_option maxRecDepth 20000 in
set_option maxHeartbeats 1000000 in
theorem z_ls0_z {xs : Nat → Int32} {L d : Nat} {h : ev_H} {h0 : ev_H} {tr : Int64} {ty nx tk pl va fa ss wg lit : Int32} {c m i : Nat} {G : Nat → Int32} {Y T : Nat → Int64} {Q : ev_Q} {k : Nat} (hS : SH h) (hi : i < 40) (kx : ∀ h' : ev_H, SH h' → KM [432] h0 h' → h' 420 = .inr (12, [.int 0, .long tr, .ref 421, .int ty, .int nx, .int tk, .int pl, .int va, .int fa, .int (nI c), .int (nI m), .int ss, .int wg, .ref 422, .ref 423, .ref 424, .ref 425, .ref 426, .ref 427, .ref 428, .ref 429, .ref 430, .ref 431, .ref 432, .ref 433]) → h' 422 = .inl (0, 240, .inl G) → h' 426 = .inl (1, 480, .inr (.inl Y)) → h' 432 = .inl (1, 4, .inr (.inl (bkR T 0 (fun p => Y (4 * i + p)) 4))) → EV xs L (d + 2) 0 0 M_X12_labour 434 h' 85 [some (.ref 420), some (.int 0), some (.int (nI i)), some (.int lit), some (.int (nI 4))] [] Q) (hF : KM [432] h0 h) (h5 : h 420 = .inr (12, [.int 0, .long tr, .ref 421, .int ty, .int nx, .int tk, .int pl, .int va, .int fa, .int (nI c), .int (nI m), .int ss, .int wg, .ref 422, .ref 423, .ref 424, .ref 425, .ref 426, .ref 427, .ref 428, .ref 429, .ref 430, .ref 431, .ref 432, .ref 433])) (h22 : h 422 = .inl (0, 240, .inl G)) (h26 : h 426 = .inl (1, 480, .inr (.inl Y))) (h32 : h 432 = .inl (1, 4, .inr (.inl (bkR T 0 (fun p => Y (4 * i + p)) (k))))) (hk : k = 4) : EV xs L (d + 2) 0 0 M_X12_labour 434 h 55 [some (.ref 420), some (.int 0), some (.int (nI i)), some (.int lit), some (.int (nI k))] [] Q := by
  refine r_iload rfl dX12_labour_55 rfl ?_
  refine r_iconst (v := 4) rfl dX12_labour_57 (by decide) ?_
  refine r_icmp_ge (tgt := 85) rfl rfl dX12_labour_58 (fun _ => ?_) (fun zc => absurd (show nI (4) ≤ nI k from nI_le (a := 4) (b := k) (by omega) (by omega)) zc)
  subst hk
  exact kx h hS hF h5 h22 h26 h32
set_option maxRecDepth 20000 in
set_option maxHeartbeats 1000000 in
theorem z_ls0_s {xs : Nat → Int32} {L d : Nat} {h : ev_H} {h0 : ev_H} {tr : Int64} {ty nx tk pl va fa ss wg lit : Int32} {c m i : Nat} {G : Nat → Int32} {Y T : Nat → Int64} {Q : ev_Q} {k : Nat} (hS : SH h) (hi : i < 40) (kx : ∀ h' : ev_H, SH h' → KM [432] h0 h' → h' 420 = .inr (12, [.int 0, .long tr, .ref 421, .int ty, .int nx, .int tk, .int pl, .int va, .int fa, .int (nI c), .int (nI m), .int ss, .int wg, .ref 422, .ref 423, .ref 424, .ref 425, .ref 426, .ref 427, .ref 428, .ref 429, .ref 430, .ref 431, .ref 432, .ref 433]) → h' 422 = .inl (0, 240, .inl G) → h' 426 = .inl (1, 480, .inr (.inl Y)) → h' 432 = .inl (1, 4, .inr (.inl (bkR T 0 (fun p => Y (4 * i + p)) 4))) → EV xs L (d + 2) 0 0 M_X12_labour 434 h' 85 [some (.ref 420), some (.int 0), some (.int (nI i)), some (.int lit), some (.int (nI 4))] [] Q) (hF : KM [432] h0 h) (h5 : h 420 = .inr (12, [.int 0, .long tr, .ref 421, .int ty, .int nx, .int tk, .int pl, .int va, .int fa, .int (nI c), .int (nI m), .int ss, .int wg, .ref 422, .ref 423, .ref 424, .ref 425, .ref 426, .ref 427, .ref 428, .ref 429, .ref 430, .ref 431, .ref 432, .ref 433])) (h22 : h 422 = .inl (0, 240, .inl G)) (h26 : h 426 = .inl (1, 480, .inr (.inl Y))) (h32 : h 432 = .inl (1, 4, .inr (.inl (bkR T 0 (fun p => Y (4 * i + p)) (k))))) (hk : k < 4) (ih : ∀ (h' : ev_H), SH h' → KM [432] h0 h' → h' 420 = .inr (12, [.int 0, .long tr, .ref 421, .int ty, .int nx, .int tk, .int pl, .int va, .int fa, .int (nI c), .int (nI m), .int ss, .int wg, .ref 422, .ref 423, .ref 424, .ref 425, .ref 426, .ref 427, .ref 428, .ref 429, .ref 430, .ref 431, .ref 432, .ref 433]) → h' 422 = .inl (0, 240, .inl G) → h' 426 = .inl (1, 480, .inr (.inl Y)) → h' 432 = .inl (1, 4, .inr (.inl (bkR T 0 (fun p => Y (4 * i + p)) (k + 1)))) → EV xs L (d + 2) 0 0 M_X12_labour 434 h' 55 [some (.ref 420), some (.int 0), some (.int (nI i)), some (.int lit), some (.int (nI (k + 1)))] [] Q) : EV xs L (d + 2) 0 0 M_X12_labour 434 h 55 [some (.ref 420), some (.int 0), some (.int (nI i)), some (.int lit), some (.int (nI k))] [] Q := by
  refine r_iload rfl dX12_labour_55 rfl ?_
  refine r_iconst (v := 4) rfl dX12_labour_57 (by decide) ?_
  refine r_icmp_ge (tgt := 85) rfl rfl dX12_labour_58 (fun zc => absurd zc (show ¬ nI (4) ≤ nI k from nI_ge (a := k) (b := 4) (by omega) (by omega))) (fun _ => ?_)
  refine r_aload_n rfl dX12_labour_61 rfl ?_
  refine r_getv 23 rfl dX12_labour_62 (show 2 ≤ 420 ∧ 420 < 434 by decide) h5 fl_X12_48 rfl ?_
  refine r_iload rfl dX12_labour_65 rfl ?_
  refine r_aload_n rfl dX12_labour_67 rfl ?_
  refine r_getv 17 rfl dX12_labour_68 (show 2 ≤ 420 ∧ 420 < 434 by decide) h5 fl_X12_30 rfl ?_
  refine r_iconst (v := 4) rfl dX12_labour_71 (by decide) ?_
  refine r_iload_n rfl dX12_labour_72 rfl ?_
  refine r_imul rfl dX12_labour_73 ?_
  refine r_eqi (y := nI (4 * i)) (show 4 * (nI i) = nI (4 * i) from pk_mul 4 i) ?_
  refine r_iload rfl dX12_labour_74 rfl ?_
  refine r_iadd rfl dX12_labour_76 ?_
  refine r_eqi (y := nI ((4 * i) + k)) (show (nI (4 * i)) + (nI k) = nI ((4 * i) + k) from nI_add (4 * i) k) ?_
  refine r_laldv (jn := (4 * i) + k) (v := Y ((4 * i) + k)) rfl dX12_labour_77 (show 2 ≤ 426 ∧ 426 < 434 by decide) h26 (vp_in_nI (n := (4 * i) + k) (by omega) (by decide)) (nI_clamp (n := (4 * i) + k) (by omega)) rfl ?_
  refine e_last (jn := k) rfl dX12_labour_78 (show 2 ≤ 432 ∧ 432 < 434 by decide) hS hF (by decide) h32 (vp_in_nI (n := k) (by omega) (by decide)) (nI_clamp (n := k) (by omega)) (fun h51 hS52 hF53 hN54 f55 => ?_)
  have f56 : h51 420 = .inr (12, [.int 0, .long tr, .ref 421, .int ty, .int nx, .int tk, .int pl, .int va, .int fa, .int (nI c), .int (nI m), .int ss, .int wg, .ref 422, .ref 423, .ref 424, .ref 425, .ref 426, .ref 427, .ref 428, .ref 429, .ref 430, .ref 431, .ref 432, .ref 433]) := (hN54 420 (by decide)).trans h5
  have f57 : h51 422 = .inl (0, 240, .inl G) := (hN54 422 (by decide)).trans h22
  have f58 : h51 426 = .inl (1, 480, .inr (.inl Y)) := (hN54 426 (by decide)).trans h26
  refine r_iinc (y := nI (k + 1)) (ls' := [some (.ref 420), some (.int 0), some (.int (nI i)), some (.int lit), some (.int (nI (k + 1)))]) rfl dX12_labour_79 rfl (nI_1 k) (Nat.le_of_ble_eq_true rfl) rfl ?_
  refine r_goto (pc' := 55) rfl dX12_labour_82 ?_
  exact ih h51 hS52 hF53 f56 f57 f58 (by rw [← bkR_s, show 4 * 0 + k = k by omega]; exact f55)
theorem z_ls0 {xs : Nat → Int32} {L d : Nat} {h0 : ev_H} {tr : Int64} {ty nx tk pl va fa ss wg lit : Int32} {c m i : Nat} {G : Nat → Int32} {Y T : Nat → Int64} {Q : ev_Q} (hi : i < 40) (kx : ∀ h' : ev_H, SH h' → KM [432] h0 h' → h' 420 = .inr (12, [.int 0, .long tr, .ref 421, .int ty, .int nx, .int tk, .int pl, .int va, .int fa, .int (nI c), .int (nI m), .int ss, .int wg, .ref 422, .ref 423, .ref 424, .ref 425, .ref 426, .ref 427, .ref 428, .ref 429, .ref 430, .ref 431, .ref 432, .ref 433]) → h' 422 = .inl (0, 240, .inl G) → h' 426 = .inl (1, 480, .inr (.inl Y)) → h' 432 = .inl (1, 4, .inr (.inl (bkR T 0 (fun p => Y (4 * i + p)) 4))) → EV xs L (d + 2) 0 0 M_X12_labour 434 h' 85 [some (.ref 420), some (.int 0), some (.int (nI i)), some (.int lit), some (.int (nI 4))] [] Q) : ∀ (nn k : Nat) (h : ev_H), k + nn = 4 → SH h → KM [432] h0 h → h 420 = .inr (12, [.int 0, .long tr, .ref 421, .int ty, .int nx, .int tk, .int pl, .int va, .int fa, .int (nI c), .int (nI m), .int ss, .int wg, .ref 422, .ref 423, .ref 424, .ref 425, .ref 426, .ref 427, .ref 428, .ref 429, .ref 430, .ref 431, .ref 432, .ref 433]) → h 422 = .inl (0, 240, .inl G) → h 426 = .inl (1, 480, .inr (.inl Y)) → h 432 = .inl (1, 4, .inr (.inl (bkR T 0 (fun p => Y (4 * i + p)) (k)))) → EV xs L (d + 2) 0 0 M_X12_labour 434 h 55 [some (.ref 420), some (.int 0), some (.int (nI i)), some (.int lit), some (.int (nI k))] [] Q := by
  intro nn
  induction nn with
  | zero => intro k h hk hS hF h5 h22 h26 h32; exact z_ls0_z hS hi kx hF h5 h22 h26 h32 (by omega)
  | succ nn ih => intro k h hk hS hF h5 h22 h26 h32; exact z_ls0_s hS hi kx hF h5 h22 h26 h32 (by omega) (fun h' q0 q1 q2 q3 q4 q5 => ih (k + 1) h' (by omega) q0 q1 q2 q3 q4 q5)
set_option maxRecDepth 20000 in
set_option maxHeartbeats 1000000 in
theorem z_ls1_z {xs : Nat → Int32} {L d : Nat} {h : ev_H} {h0 : ev_H} {tr : Int64} {ty nx tk pl va fa ss wg lit : Int32} {c m i : Nat} {G : Nat → Int32} {Y T : Nat → Int64} {Q : ev_Q} {k : Nat} (hS : SH h) (hi : i < 40) (kx : ∀ h' : ev_H, SH h' → KM [432] h0 h' → h' 420 = .inr (12, [.int 0, .long tr, .ref 421, .int ty, .int nx, .int tk, .int pl, .int va, .int fa, .int (nI c), .int (nI m), .int ss, .int wg, .ref 422, .ref 423, .ref 424, .ref 425, .ref 426, .ref 427, .ref 428, .ref 429, .ref 430, .ref 431, .ref 432, .ref 433]) → h' 422 = .inl (0, 240, .inl G) → h' 426 = .inl (1, 480, .inr (.inl Y)) → h' 432 = .inl (1, 4, .inr (.inl (bkR T 0 (fun p => Y (4 * i + p)) 4))) → EV xs L (d + 2) 0 0 M_X12_labour 434 h' 85 [some (.ref 420), some (.int 1), some (.int (nI i)), some (.int lit), some (.int (nI 4))] [] Q) (hF : KM [432] h0 h) (h5 : h 420 = .inr (12, [.int 0, .long tr, .ref 421, .int ty, .int nx, .int tk, .int pl, .int va, .int fa, .int (nI c), .int (nI m), .int ss, .int wg, .ref 422, .ref 423, .ref 424, .ref 425, .ref 426, .ref 427, .ref 428, .ref 429, .ref 430, .ref 431, .ref 432, .ref 433])) (h22 : h 422 = .inl (0, 240, .inl G)) (h26 : h 426 = .inl (1, 480, .inr (.inl Y))) (h32 : h 432 = .inl (1, 4, .inr (.inl (bkR T 0 (fun p => Y (4 * i + p)) (k))))) (hk : k = 4) : EV xs L (d + 2) 0 0 M_X12_labour 434 h 55 [some (.ref 420), some (.int 1), some (.int (nI i)), some (.int lit), some (.int (nI k))] [] Q := by
  refine r_iload rfl dX12_labour_55 rfl ?_
  refine r_iconst (v := 4) rfl dX12_labour_57 (by decide) ?_
  refine r_icmp_ge (tgt := 85) rfl rfl dX12_labour_58 (fun _ => ?_) (fun zc => absurd (show nI (4) ≤ nI k from nI_le (a := 4) (b := k) (by omega) (by omega)) zc)
  subst hk
  exact kx h hS hF h5 h22 h26 h32
set_option maxRecDepth 20000 in
set_option maxHeartbeats 1000000 in
theorem z_ls1_s {xs : Nat → Int32} {L d : Nat} {h : ev_H} {h0 : ev_H} {tr : Int64} {ty nx tk pl va fa ss wg lit : Int32} {c m i : Nat} {G : Nat → Int32} {Y T : Nat → Int64} {Q : ev_Q} {k : Nat} (hS : SH h) (hi : i < 40) (kx : ∀ h' : ev_H, SH h' → KM [432] h0 h' → h' 420 = .inr (12, [.int 0, .long tr, .ref 421, .int ty, .int nx, .int tk, .int pl, .int va, .int fa, .int (nI c), .int (nI m), .int ss, .int wg, .ref 422, .ref 423, .ref 424, .ref 425, .ref 426, .ref 427, .ref 428, .ref 429, .ref 430, .ref 431, .ref 432, .ref 433]) → h' 422 = .inl (0, 240, .inl G) → h' 426 = .inl (1, 480, .inr (.inl Y)) → h' 432 = .inl (1, 4, .inr (.inl (bkR T 0 (fun p => Y (4 * i + p)) 4))) → EV xs L (d + 2) 0 0 M_X12_labour 434 h' 85 [some (.ref 420), some (.int 1), some (.int (nI i)), some (.int lit), some (.int (nI 4))] [] Q) (hF : KM [432] h0 h) (h5 : h 420 = .inr (12, [.int 0, .long tr, .ref 421, .int ty, .int nx, .int tk, .int pl, .int va, .int fa, .int (nI c), .int (nI m), .int ss, .int wg, .ref 422, .ref 423, .ref 424, .ref 425, .ref 426, .ref 427, .ref 428, .ref 429, .ref 430, .ref 431, .ref 432, .ref 433])) (h22 : h 422 = .inl (0, 240, .inl G)) (h26 : h 426 = .inl (1, 480, .inr (.inl Y))) (h32 : h 432 = .inl (1, 4, .inr (.inl (bkR T 0 (fun p => Y (4 * i + p)) (k))))) (hk : k < 4) (ih : ∀ (h' : ev_H), SH h' → KM [432] h0 h' → h' 420 = .inr (12, [.int 0, .long tr, .ref 421, .int ty, .int nx, .int tk, .int pl, .int va, .int fa, .int (nI c), .int (nI m), .int ss, .int wg, .ref 422, .ref 423, .ref 424, .ref 425, .ref 426, .ref 427, .ref 428, .ref 429, .ref 430, .ref 431, .ref 432, .ref 433]) → h' 422 = .inl (0, 240, .inl G) → h' 426 = .inl (1, 480, .inr (.inl Y)) → h' 432 = .inl (1, 4, .inr (.inl (bkR T 0 (fun p => Y (4 * i + p)) (k + 1)))) → EV xs L (d + 2) 0 0 M_X12_labour 434 h' 55 [some (.ref 420), some (.int 1), some (.int (nI i)), some (.int lit), some (.int (nI (k + 1)))] [] Q) : EV xs L (d + 2) 0 0 M_X12_labour 434 h 55 [some (.ref 420), some (.int 1), some (.int (nI i)), some (.int lit), some (.int (nI k))] [] Q := by
  refine r_iload rfl dX12_labour_55 rfl ?_
  refine r_iconst (v := 4) rfl dX12_labour_57 (by decide) ?_
  refine r_icmp_ge (tgt := 85) rfl rfl dX12_labour_58 (fun zc => absurd zc (show ¬ nI (4) ≤ nI k from nI_ge (a := k) (b := 4) (by omega) (by omega))) (fun _ => ?_)
  refine r_aload_n rfl dX12_labour_61 rfl ?_
  refine r_getv 23 rfl dX12_labour_62 (show 2 ≤ 420 ∧ 420 < 434 by decide) h5 fl_X12_48 rfl ?_
  refine r_iload rfl dX12_labour_65 rfl ?_
  refine r_aload_n rfl dX12_labour_67 rfl ?_
  refine r_getv 17 rfl dX12_labour_68 (show 2 ≤ 420 ∧ 420 < 434 by decide) h5 fl_X12_30 rfl ?_
  refine r_iconst (v := 4) rfl dX12_labour_71 (by decide) ?_
  refine r_iload_n rfl dX12_labour_72 rfl ?_
  refine r_imul rfl dX12_labour_73 ?_
  refine r_eqi (y := nI (4 * i)) (show 4 * (nI i) = nI (4 * i) from pk_mul 4 i) ?_
  refine r_iload rfl dX12_labour_74 rfl ?_
  refine r_iadd rfl dX12_labour_76 ?_
  refine r_eqi (y := nI ((4 * i) + k)) (show (nI (4 * i)) + (nI k) = nI ((4 * i) + k) from nI_add (4 * i) k) ?_
  refine r_laldv (jn := (4 * i) + k) (v := Y ((4 * i) + k)) rfl dX12_labour_77 (show 2 ≤ 426 ∧ 426 < 434 by decide) h26 (vp_in_nI (n := (4 * i) + k) (by omega) (by decide)) (nI_clamp (n := (4 * i) + k) (by omega)) rfl ?_
  refine e_last (jn := k) rfl dX12_labour_78 (show 2 ≤ 432 ∧ 432 < 434 by decide) hS hF (by decide) h32 (vp_in_nI (n := k) (by omega) (by decide)) (nI_clamp (n := k) (by omega)) (fun h51 hS52 hF53 hN54 f55 => ?_)
  have f56 : h51 420 = .inr (12, [.int 0, .long tr, .ref 421, .int ty, .int nx, .int tk, .int pl, .int va, .int fa, .int (nI c), .int (nI m), .int ss, .int wg, .ref 422, .ref 423, .ref 424, .ref 425, .ref 426, .ref 427, .ref 428, .ref 429, .ref 430, .ref 431, .ref 432, .ref 433]) := (hN54 420 (by decide)).trans h5
  have f57 : h51 422 = .inl (0, 240, .inl G) := (hN54 422 (by decide)).trans h22
  have f58 : h51 426 = .inl (1, 480, .inr (.inl Y)) := (hN54 426 (by decide)).trans h26
  refine r_iinc (y := nI (k + 1)) (ls' := [some (.ref 420), some (.int 1), some (.int (nI i)), some (.int lit), some (.int (nI (k + 1)))]) rfl dX12_labour_79 rfl (nI_1 k) (Nat.le_of_ble_eq_true rfl) rfl ?_
  refine r_goto (pc' := 55) rfl dX12_labour_82 ?_
  exact ih h51 hS52 hF53 f56 f57 f58 (by rw [← bkR_s, show 4 * 0 + k = k by omega]; exact f55)
theorem z_ls1 {xs : Nat → Int32} {L d : Nat} {h0 : ev_H} {tr : Int64} {ty nx tk pl va fa ss wg lit : Int32} {c m i : Nat} {G : Nat → Int32} {Y T : Nat → Int64} {Q : ev_Q} (hi : i < 40) (kx : ∀ h' : ev_H, SH h' → KM [432] h0 h' → h' 420 = .inr (12, [.int 0, .long tr, .ref 421, .int ty, .int nx, .int tk, .int pl, .int va, .int fa, .int (nI c), .int (nI m), .int ss, .int wg, .ref 422, .ref 423, .ref 424, .ref 425, .ref 426, .ref 427, .ref 428, .ref 429, .ref 430, .ref 431, .ref 432, .ref 433]) → h' 422 = .inl (0, 240, .inl G) → h' 426 = .inl (1, 480, .inr (.inl Y)) → h' 432 = .inl (1, 4, .inr (.inl (bkR T 0 (fun p => Y (4 * i + p)) 4))) → EV xs L (d + 2) 0 0 M_X12_labour 434 h' 85 [some (.ref 420), some (.int 1), some (.int (nI i)), some (.int lit), some (.int (nI 4))] [] Q) : ∀ (nn k : Nat) (h : ev_H), k + nn = 4 → SH h → KM [432] h0 h → h 420 = .inr (12, [.int 0, .long tr, .ref 421, .int ty, .int nx, .int tk, .int pl, .int va, .int fa, .int (nI c), .int (nI m), .int ss, .int wg, .ref 422, .ref 423, .ref 424, .ref 425, .ref 426, .ref 427, .ref 428, .ref 429, .ref 430, .ref 431, .ref 432, .ref 433]) → h 422 = .inl (0, 240, .inl G) → h 426 = .inl (1, 480, .inr (.inl Y)) → h 432 = .inl (1, 4, .inr (.inl (bkR T 0 (fun p => Y (4 * i + p)) (k)))) → EV xs L (d + 2) 0 0 M_X12_labour 434 h 55 [some (.ref 420), some (.int 1), some (.int (nI i)), some (.int lit), some (.int (nI k))] [] Q := by
  intro nn
  induction nn with
  | zero => intro k h hk hS hF h5 h22 h26 h32; exact z_ls1_z hS hi kx hF h5 h22 h26 h32 (by omega)
  | succ nn ih => intro k h hk hS hF h5 h22 h26 h32; exact z_ls1_s hS hi kx hF h5 h22 h26 h32 (by omega) (fun h' q0 q1 q2 q3 q4 q5 => ih (k + 1) h' (by omega) q0 q1 q2 q3 q4 q5)
set_option maxRecDepth 20000 in
set_option maxHeartbeats 1000000 in
theorem z_ls2_z {xs : Nat → Int32} {L d : Nat} {h : ev_H} {h0 : ev_H} {tr : Int64} {ty nx tk pl va fa ss wg lit : Int32} {c m i : Nat} {G : Nat → Int32} {Y T : Nat → Int64} {Q : ev_Q} {k : Nat} (hS : SH h) (hi : i < 40) (kx : ∀ h' : ev_H, SH h' → KM [432] h0 h' → h' 420 = .inr (12, [.int 0, .long tr, .ref 421, .int ty, .int nx, .int tk, .int pl, .int va, .int fa, .int (nI c), .int (nI m), .int ss, .int wg, .ref 422, .ref 423, .ref 424, .ref 425, .ref 426, .ref 427, .ref 428, .ref 429, .ref 430, .ref 431, .ref 432, .ref 433]) → h' 422 = .inl (0, 240, .inl G) → h' 426 = .inl (1, 480, .inr (.inl Y)) → h' 432 = .inl (1, 4, .inr (.inl (bkR T 0 (fun p => Y (4 * i + p)) 4))) → EV xs L (d + 2) 0 0 M_X12_labour 434 h' 85 [some (.ref 420), some (.int 2), some (.int (nI i)), some (.int lit), some (.int (nI 4))] [] Q) (hF : KM [432] h0 h) (h5 : h 420 = .inr (12, [.int 0, .long tr, .ref 421, .int ty, .int nx, .int tk, .int pl, .int va, .int fa, .int (nI c), .int (nI m), .int ss, .int wg, .ref 422, .ref 423, .ref 424, .ref 425, .ref 426, .ref 427, .ref 428, .ref 429, .ref 430, .ref 431, .ref 432, .ref 433])) (h22 : h 422 = .inl (0, 240, .inl G)) (h26 : h 426 = .inl (1, 480, .inr (.inl Y))) (h32 : h 432 = .inl (1, 4, .inr (.inl (bkR T 0 (fun p => Y (4 * i + p)) (k))))) (hk : k = 4) : EV xs L (d + 2) 0 0 M_X12_labour 434 h 55 [some (.ref 420), some (.int 2), some (.int (nI i)), some (.int lit), some (.int (nI k))] [] Q := by
  refine r_iload rfl dX12_labour_55 rfl ?_
  refine r_iconst (v := 4) rfl dX12_labour_57 (by decide) ?_
  refine r_icmp_ge (tgt := 85) rfl rfl dX12_labour_58 (fun _ => ?_) (fun zc => absurd (show nI (4) ≤ nI k from nI_le (a := 4) (b := k) (by omega) (by omega)) zc)
  subst hk
  exact kx h hS hF h5 h22 h26 h32
set_option maxRecDepth 20000 in
set_option maxHeartbeats 1000000 in
theorem z_ls2_s {xs : Nat → Int32} {L d : Nat} {h : ev_H} {h0 : ev_H} {tr : Int64} {ty nx tk pl va fa ss wg lit : Int32} {c m i : Nat} {G : Nat → Int32} {Y T : Nat → Int64} {Q : ev_Q} {k : Nat} (hS : SH h) (hi : i < 40) (kx : ∀ h' : ev_H, SH h' → KM [432] h0 h' → h' 420 = .inr (12, [.int 0, .long tr, .ref 421, .int ty, .int nx, .int tk, .int pl, .int va, .int fa, .int (nI c), .int (nI m), .int ss, .int wg, .ref 422, .ref 423, .ref 424, .ref 425, .ref 426, .ref 427, .ref 428, .ref 429, .ref 430, .ref 431, .ref 432, .ref 433]) → h' 422 = .inl (0, 240, .inl G) → h' 426 = .inl (1, 480, .inr (.inl Y)) → h' 432 = .inl (1, 4, .inr (.inl (bkR T 0 (fun p => Y (4 * i + p)) 4))) → EV xs L (d + 2) 0 0 M_X12_labour 434 h' 85 [some (.ref 420), some (.int 2), some (.int (nI i)), some (.int lit), some (.int (nI 4))] [] Q) (hF : KM [432] h0 h) (h5 : h 420 = .inr (12, [.int 0, .long tr, .ref 421, .int ty, .int nx, .int tk, .int pl, .int va, .int fa, .int (nI c), .int (nI m), .int ss, .int wg, .ref 422, .ref 423, .ref 424, .ref 425, .ref 426, .ref 427, .ref 428, .ref 429, .ref 430, .ref 431, .ref 432, .ref 433])) (h22 : h 422 = .inl (0, 240, .inl G)) (h26 : h 426 = .inl (1, 480, .inr (.inl Y))) (h32 : h 432 = .inl (1, 4, .inr (.inl (bkR T 0 (fun p => Y (4 * i + p)) (k))))) (hk : k < 4) (ih : ∀ (h' : ev_H), SH h' → KM [432] h0 h' → h' 420 = .inr (12, [.int 0, .long tr, .ref 421, .int ty, .int nx, .int tk, .int pl, .int va, .int fa, .int (nI c), .int (nI m), .int ss, .int wg, .ref 422, .ref 423, .ref 424, .ref 425, .ref 426, .ref 427, .ref 428, .ref 429, .ref 430, .ref 431, .ref 432, .ref 433]) → h' 422 = .inl (0, 240, .inl G) → h' 426 = .inl (1, 480, .inr (.inl Y)) → h' 432 = .inl (1, 4, .inr (.inl (bkR T 0 (fun p => Y (4 * i + p)) (k + 1)))) → EV xs L (d + 2) 0 0 M_X12_labour 434 h' 55 [some (.ref 420), some (.int 2), some (.int (nI i)), some (.int lit), some (.int (nI (k + 1)))] [] Q) : EV xs L (d + 2) 0 0 M_X12_labour 434 h 55 [some (.ref 420), some (.int 2), some (.int (nI i)), some (.int lit), some (.int (nI k))] [] Q := by
  refine r_iload rfl dX12_labour_55 rfl ?_
  refine r_iconst (v := 4) rfl dX12_labour_57 (by decide) ?_
  refine r_icmp_ge (tgt := 85) rfl rfl dX12_labour_58 (fun zc => absurd zc (show ¬ nI (4) ≤ nI k from nI_ge (a := k) (b := 4) (by omega) (by omega))) (fun _ => ?_)
  refine r_aload_n rfl dX12_labour_61 rfl ?_
  refine r_getv 23 rfl dX12_labour_62 (show 2 ≤ 420 ∧ 420 < 434 by decide) h5 fl_X12_48 rfl ?_
  refine r_iload rfl dX12_labour_65 rfl ?_
  refine r_aload_n rfl dX12_labour_67 rfl ?_
  refine r_getv 17 rfl dX12_labour_68 (show 2 ≤ 420 ∧ 420 < 434 by decide) h5 fl_X12_30 rfl ?_
  refine r_iconst (v := 4) rfl dX12_labour_71 (by decide) ?_
  refine r_iload_n rfl dX12_labour_72 rfl ?_
  refine r_imul rfl dX12_labour_73 ?_
  refine r_eqi (y := nI (4 * i)) (show 4 * (nI i) = nI (4 * i) from pk_mul 4 i) ?_
  refine r_iload rfl dX12_labour_74 rfl ?_
  refine r_iadd rfl dX12_labour_76 ?_
  refine r_eqi (y := nI ((4 * i) + k)) (show (nI (4 * i)) + (nI k) = nI ((4 * i) + k) from nI_add (4 * i) k) ?_
  refine r_laldv (jn := (4 * i) + k) (v := Y ((4 * i) + k)) rfl dX12_labour_77 (show 2 ≤ 426 ∧ 426 < 434 by decide) h26 (vp_in_nI (n := (4 * i) + k) (by omega) (by decide)) (nI_clamp (n := (4 * i) + k) (by omega)) rfl ?_
  refine e_last (jn := k) rfl dX12_labour_78 (show 2 ≤ 432 ∧ 432 < 434 by decide) hS hF (by decide) h32 (vp_in_nI (n := k) (by omega) (by decide)) (nI_clamp (n := k) (by omega)) (fun h51 hS52 hF53 hN54 f55 => ?_)
  have f56 : h51 420 = .inr (12, [.int 0, .long tr, .ref 421, .int ty, .int nx, .int tk, .int pl, .int va, .int fa, .int (nI c), .int (nI m), .int ss, .int wg, .ref 422, .ref 423, .ref 424, .ref 425, .ref 426, .ref 427, .ref 428, .ref 429, .ref 430, .ref 431, .ref 432, .ref 433]) := (hN54 420 (by decide)).trans h5
  have f57 : h51 422 = .inl (0, 240, .inl G) := (hN54 422 (by decide)).trans h22
  have f58 : h51 426 = .inl (1, 480, .inr (.inl Y)) := (hN54 426 (by decide)).trans h26
  refine r_iinc (y := nI (k + 1)) (ls' := [some (.ref 420), some (.int 2), some (.int (nI i)), some (.int lit), some (.int (nI (k + 1)))]) rfl dX12_labour_79 rfl (nI_1 k) (Nat.le_of_ble_eq_true rfl) rfl ?_
  refine r_goto (pc' := 55) rfl dX12_labour_82 ?_
  exact ih h51 hS52 hF53 f56 f57 f58 (by rw [← bkR_s, show 4 * 0 + k = k by omega]; exact f55)
theorem z_ls2 {xs : Nat → Int32} {L d : Nat} {h0 : ev_H} {tr : Int64} {ty nx tk pl va fa ss wg lit : Int32} {c m i : Nat} {G : Nat → Int32} {Y T : Nat → Int64} {Q : ev_Q} (hi : i < 40) (kx : ∀ h' : ev_H, SH h' → KM [432] h0 h' → h' 420 = .inr (12, [.int 0, .long tr, .ref 421, .int ty, .int nx, .int tk, .int pl, .int va, .int fa, .int (nI c), .int (nI m), .int ss, .int wg, .ref 422, .ref 423, .ref 424, .ref 425, .ref 426, .ref 427, .ref 428, .ref 429, .ref 430, .ref 431, .ref 432, .ref 433]) → h' 422 = .inl (0, 240, .inl G) → h' 426 = .inl (1, 480, .inr (.inl Y)) → h' 432 = .inl (1, 4, .inr (.inl (bkR T 0 (fun p => Y (4 * i + p)) 4))) → EV xs L (d + 2) 0 0 M_X12_labour 434 h' 85 [some (.ref 420), some (.int 2), some (.int (nI i)), some (.int lit), some (.int (nI 4))] [] Q) : ∀ (nn k : Nat) (h : ev_H), k + nn = 4 → SH h → KM [432] h0 h → h 420 = .inr (12, [.int 0, .long tr, .ref 421, .int ty, .int nx, .int tk, .int pl, .int va, .int fa, .int (nI c), .int (nI m), .int ss, .int wg, .ref 422, .ref 423, .ref 424, .ref 425, .ref 426, .ref 427, .ref 428, .ref 429, .ref 430, .ref 431, .ref 432, .ref 433]) → h 422 = .inl (0, 240, .inl G) → h 426 = .inl (1, 480, .inr (.inl Y)) → h 432 = .inl (1, 4, .inr (.inl (bkR T 0 (fun p => Y (4 * i + p)) (k)))) → EV xs L (d + 2) 0 0 M_X12_labour 434 h 55 [some (.ref 420), some (.int 2), some (.int (nI i)), some (.int lit), some (.int (nI k))] [] Q := by
  intro nn
  induction nn with
  | zero => intro k h hk hS hF h5 h22 h26 h32; exact z_ls2_z hS hi kx hF h5 h22 h26 h32 (by omega)
  | succ nn ih => intro k h hk hS hF h5 h22 h26 h32; exact z_ls2_s hS hi kx hF h5 h22 h26 h32 (by omega) (fun h' q0 q1 q2 q3 q4 q5 => ih (k + 1) h' (by omega) q0 q1 q2 q3 q4 q5)
set_option maxRecDepth 20000 in
set_option maxHeartbeats 1000000 in
theorem z_ls3_z {xs : Nat → Int32} {L d : Nat} {h : ev_H} {h0 : ev_H} {tr : Int64} {ty nx tk pl va fa ss wg lit : Int32} {c m i : Nat} {G : Nat → Int32} {Y T : Nat → Int64} {Q : ev_Q} {k : Nat} (hS : SH h) (hi : i < 40) (kx : ∀ h' : ev_H, SH h' → KM [432] h0 h' → h' 420 = .inr (12, [.int 0, .long tr, .ref 421, .int ty, .int nx, .int tk, .int pl, .int va, .int fa, .int (nI c), .int (nI m), .int ss, .int wg, .ref 422, .ref 423, .ref 424, .ref 425, .ref 426, .ref 427, .ref 428, .ref 429, .ref 430, .ref 431, .ref 432, .ref 433]) → h' 422 = .inl (0, 240, .inl G) → h' 426 = .inl (1, 480, .inr (.inl Y)) → h' 432 = .inl (1, 4, .inr (.inl (bkR T 0 (fun p => Y (4 * i + p)) 4))) → EV xs L (d + 2) 0 0 M_X12_labour 434 h' 85 [some (.ref 420), some (.int 3), some (.int (nI i)), some (.int lit), some (.int (nI 4))] [] Q) (hF : KM [432] h0 h) (h5 : h 420 = .inr (12, [.int 0, .long tr, .ref 421, .int ty, .int nx, .int tk, .int pl, .int va, .int fa, .int (nI c), .int (nI m), .int ss, .int wg, .ref 422, .ref 423, .ref 424, .ref 425, .ref 426, .ref 427, .ref 428, .ref 429, .ref 430, .ref 431, .ref 432, .ref 433])) (h22 : h 422 = .inl (0, 240, .inl G)) (h26 : h 426 = .inl (1, 480, .inr (.inl Y))) (h32 : h 432 = .inl (1, 4, .inr (.inl (bkR T 0 (fun p => Y (4 * i + p)) (k))))) (hk : k = 4) : EV xs L (d + 2) 0 0 M_X12_labour 434 h 55 [some (.ref 420), some (.int 3), some (.int (nI i)), some (.int lit), some (.int (nI k))] [] Q := by
  refine r_iload rfl dX12_labour_55 rfl ?_
  refine r_iconst (v := 4) rfl dX12_labour_57 (by decide) ?_
  refine r_icmp_ge (tgt := 85) rfl rfl dX12_labour_58 (fun _ => ?_) (fun zc => absurd (show nI (4) ≤ nI k from nI_le (a := 4) (b := k) (by omega) (by omega)) zc)
  subst hk
  exact kx h hS hF h5 h22 h26 h32
set_option maxRecDepth 20000 in
set_option maxHeartbeats 1000000 in
theorem z_ls3_s {xs : Nat → Int32} {L d : Nat} {h : ev_H} {h0 : ev_H} {tr : Int64} {ty nx tk pl va fa ss wg lit : Int32} {c m i : Nat} {G : Nat → Int32} {Y T : Nat → Int64} {Q : ev_Q} {k : Nat} (hS : SH h) (hi : i < 40) (kx : ∀ h' : ev_H, SH h' → KM [432] h0 h' → h' 420 = .inr (12, [.int 0, .long tr, .ref 421, .int ty, .int nx, .int tk, .int pl, .int va, .int fa, .int (nI c), .int (nI m), .int ss, .int wg, .ref 422, .ref 423, .ref 424, .ref 425, .ref 426, .ref 427, .ref 428, .ref 429, .ref 430, .ref 431, .ref 432, .ref 433]) → h' 422 = .inl (0, 240, .inl G) → h' 426 = .inl (1, 480, .inr (.inl Y)) → h' 432 = .inl (1, 4, .inr (.inl (bkR T 0 (fun p => Y (4 * i + p)) 4))) → EV xs L (d + 2) 0 0 M_X12_labour 434 h' 85 [some (.ref 420), some (.int 3), some (.int (nI i)), some (.int lit), some (.int (nI 4))] [] Q) (hF : KM [432] h0 h) (h5 : h 420 = .inr (12, [.int 0, .long tr, .ref 421, .int ty, .int nx, .int tk, .int pl, .int va, .int fa, .int (nI c), .int (nI m), .int ss, .int wg, .ref 422, .ref 423, .ref 424, .ref 425, .ref 426, .ref 427, .ref 428, .ref 429, .ref 430, .ref 431, .ref 432, .ref 433])) (h22 : h 422 = .inl (0, 240, .inl G)) (h26 : h 426 = .inl (1, 480, .inr (.inl Y))) (h32 : h 432 = .inl (1, 4, .inr (.inl (bkR T 0 (fun p => Y (4 * i + p)) (k))))) (hk : k < 4) (ih : ∀ (h' : ev_H), SH h' → KM [432] h0 h' → h' 420 = .inr (12, [.int 0, .long tr, .ref 421, .int ty, .int nx, .int tk, .int pl, .int va, .int fa, .int (nI c), .int (nI m), .int ss, .int wg, .ref 422, .ref 423, .ref 424, .ref 425, .ref 426, .ref 427, .ref 428, .ref 429, .ref 430, .ref 431, .ref 432, .ref 433]) → h' 422 = .inl (0, 240, .inl G) → h' 426 = .inl (1, 480, .inr (.inl Y)) → h' 432 = .inl (1, 4, .inr (.inl (bkR T 0 (fun p => Y (4 * i + p)) (k + 1)))) → EV xs L (d + 2) 0 0 M_X12_labour 434 h' 55 [some (.ref 420), some (.int 3), some (.int (nI i)), some (.int lit), some (.int (nI (k + 1)))] [] Q) : EV xs L (d + 2) 0 0 M_X12_labour 434 h 55 [some (.ref 420), some (.int 3), some (.int (nI i)), some (.int lit), some (.int (nI k))] [] Q := by
  refine r_iload rfl dX12_labour_55 rfl ?_
  refine r_iconst (v := 4) rfl dX12_labour_57 (by decide) ?_
  refine r_icmp_ge (tgt := 85) rfl rfl dX12_labour_58 (fun zc => absurd zc (show ¬ nI (4) ≤ nI k from nI_ge (a := k) (b := 4) (by omega) (by omega))) (fun _ => ?_)
  refine r_aload_n rfl dX12_labour_61 rfl ?_
  refine r_getv 23 rfl dX12_labour_62 (show 2 ≤ 420 ∧ 420 < 434 by decide) h5 fl_X12_48 rfl ?_
  refine r_iload rfl dX12_labour_65 rfl ?_
  refine r_aload_n rfl dX12_labour_67 rfl ?_
  refine r_getv 17 rfl dX12_labour_68 (show 2 ≤ 420 ∧ 420 < 434 by decide) h5 fl_X12_30 rfl ?_
  refine r_iconst (v := 4) rfl dX12_labour_71 (by decide) ?_
  refine r_iload_n rfl dX12_labour_72 rfl ?_
  refine r_imul rfl dX12_labour_73 ?_
  refine r_eqi (y := nI (4 * i)) (show 4 * (nI i) = nI (4 * i) from pk_mul 4 i) ?_
  refine r_iload rfl dX12_labour_74 rfl ?_
  refine r_iadd rfl dX12_labour_76 ?_
  refine r_eqi (y := nI ((4 * i) + k)) (show (nI (4 * i)) + (nI k) = nI ((4 * i) + k) from nI_add (4 * i) k) ?_
  refine r_laldv (jn := (4 * i) + k) (v := Y ((4 * i) + k)) rfl dX12_labour_77 (show 2 ≤ 426 ∧ 426 < 434 by decide) h26 (vp_in_nI (n := (4 * i) + k) (by omega) (by decide)) (nI_clamp (n := (4 * i) + k) (by omega)) rfl ?_
  refine e_last (jn := k) rfl dX12_labour_78 (show 2 ≤ 432 ∧ 432 < 434 by decide) hS hF (by decide) h32 (vp_in_nI (n := k) (by omega) (by decide)) (nI_clamp (n := k) (by omega)) (fun h51 hS52 hF53 hN54 f55 => ?_)
  have f56 : h51 420 = .inr (12, [.int 0, .long tr, .ref 421, .int ty, .int nx, .int tk, .int pl, .int va, .int fa, .int (nI c), .int (nI m), .int ss, .int wg, .ref 422, .ref 423, .ref 424, .ref 425, .ref 426, .ref 427, .ref 428, .ref 429, .ref 430, .ref 431, .ref 432, .ref 433]) := (hN54 420 (by decide)).trans h5
  have f57 : h51 422 = .inl (0, 240, .inl G) := (hN54 422 (by decide)).trans h22
  have f58 : h51 426 = .inl (1, 480, .inr (.inl Y)) := (hN54 426 (by decide)).trans h26
  refine r_iinc (y := nI (k + 1)) (ls' := [some (.ref 420), some (.int 3), some (.int (nI i)), some (.int lit), some (.int (nI (k + 1)))]) rfl dX12_labour_79 rfl (nI_1 k) (Nat.le_of_ble_eq_true rfl) rfl ?_
  refine r_goto (pc' := 55) rfl dX12_labour_82 ?_
  exact ih h51 hS52 hF53 f56 f57 f58 (by rw [← bkR_s, show 4 * 0 + k = k by omega]; exact f55)
theorem z_ls3 {xs : Nat → Int32} {L d : Nat} {h0 : ev_H} {tr : Int64} {ty nx tk pl va fa ss wg lit : Int32} {c m i : Nat} {G : Nat → Int32} {Y T : Nat → Int64} {Q : ev_Q} (hi : i < 40) (kx : ∀ h' : ev_H, SH h' → KM [432] h0 h' → h' 420 = .inr (12, [.int 0, .long tr, .ref 421, .int ty, .int nx, .int tk, .int pl, .int va, .int fa, .int (nI c), .int (nI m), .int ss, .int wg, .ref 422, .ref 423, .ref 424, .ref 425, .ref 426, .ref 427, .ref 428, .ref 429, .ref 430, .ref 431, .ref 432, .ref 433]) → h' 422 = .inl (0, 240, .inl G) → h' 426 = .inl (1, 480, .inr (.inl Y)) → h' 432 = .inl (1, 4, .inr (.inl (bkR T 0 (fun p => Y (4 * i + p)) 4))) → EV xs L (d + 2) 0 0 M_X12_labour 434 h' 85 [some (.ref 420), some (.int 3), some (.int (nI i)), some (.int lit), some (.int (nI 4))] [] Q) : ∀ (nn k : Nat) (h : ev_H), k + nn = 4 → SH h → KM [432] h0 h → h 420 = .inr (12, [.int 0, .long tr, .ref 421, .int ty, .int nx, .int tk, .int pl, .int va, .int fa, .int (nI c), .int (nI m), .int ss, .int wg, .ref 422, .ref 423, .ref 424, .ref 425, .ref 426, .ref 427, .ref 428, .ref 429, .ref 430, .ref 431, .ref 432, .ref 433]) → h 422 = .inl (0, 240, .inl G) → h 426 = .inl (1, 480, .inr (.inl Y)) → h 432 = .inl (1, 4, .inr (.inl (bkR T 0 (fun p => Y (4 * i + p)) (k)))) → EV xs L (d + 2) 0 0 M_X12_labour 434 h 55 [some (.ref 420), some (.int 3), some (.int (nI i)), some (.int lit), some (.int (nI k))] [] Q := by
  intro nn
  induction nn with
  | zero => intro k h hk hS hF h5 h22 h26 h32; exact z_ls3_z hS hi kx hF h5 h22 h26 h32 (by omega)
  | succ nn ih => intro k h hk hS hF h5 h22 h26 h32; exact z_ls3_s hS hi kx hF h5 h22 h26 h32 (by omega) (fun h' q0 q1 q2 q3 q4 q5 => ih (k + 1) h' (by omega) q0 q1 q2 q3 q4 q5)
set_option maxRecDepth 20000 in
set_option maxHeartbeats 1000000 in
theorem z_lab0 {xs : Nat → Int32} {L d : Nat} {h : ev_H} {th : Int32} {tr : Int64} {ty nx tk pl va fa ss wg : Int32} {c m : Nat} {y : Int32} {G : Nat → Int32} {Y T : Nat → Int64} (hS : SH h) (h5 : h 420 = .inr (12, [.int th, .long tr, .ref 421, .int ty, .int nx, .int tk, .int pl, .int va, .int fa, .int (nI c), .int (nI m), .int ss, .int wg, .ref 422, .ref 423, .ref 424, .ref 425, .ref 426, .ref 427, .ref 428, .ref 429, .ref 430, .ref 431, .ref 432, .ref 433])) (hc : c ≤ 16) (hm : m ≤ 24) (h22 : h 422 = cI 240 G) (h26 : h 426 = cL 480 Y) (h32 : h 432 = cL 4 T) : EV xs L (d + 2) 0 0 M_X12_labour 434 h 0 [some (.ref 420), some (.int 0), some (.int y), none, none] [] (fun sz' h' r => sz' = 434 ∧ SH h' ∧ KM [420, 432] h h' ∧ r = [.int (lbN G Y (c + m) 0 y)] ∧ h' 420 = c420 0 (lbT 0 y (c + m) tr) ty nx tk pl va fa (nI c) (nI m) ss wg) := by
  refine r_aload_n rfl dX12_labour_0 rfl ?_
  refine r_iconst (v := 0) rfl dX12_labour_1 (by decide) ?_
  refine e_put 0 (fs' := [.int 0, .long tr, .ref 421, .int ty, .int nx, .int tk, .int pl, .int va, .int fa, .int (nI c), .int (nI m), .int ss, .int wg, .ref 422, .ref 423, .ref 424, .ref 425, .ref 426, .ref 427, .ref 428, .ref 429, .ref 430, .ref 431, .ref 432, .ref 433]) rfl dX12_labour_2 (show 2 ≤ 420 ∧ 420 < 434 by decide) hS (KM_rf (Mod := [420, 432]) h) (by decide) h5 (fp_X12_57 rfl _) (Nat.le_of_ble_eq_true rfl) rfl (fun h51 hS52 hF53 hN54 f55 => ?_)
  have f56 : h51 422 = .inl (0, 240, .inl G) := (hN54 422 (by decide)).trans h22
  have f57 : h51 426 = .inl (1, 480, .inr (.inl Y)) := (hN54 426 (by decide)).trans h26
  have f58 : h51 432 = .inl (1, 4, .inr (.inl T)) := (hN54 432 (by decide)).trans h32
  refine r_iload_n rfl dX12_labour_5 rfl ?_
  refine r_iconst (v := 0) rfl dX12_labour_6 (by decide) ?_
  refine r_iconst (v := 3) rfl dX12_labour_7 (by decide) ?_
  refine cl_X12_60 rfl rfl dX12_labour_8 (Nat.le_of_ble_eq_true rfl) s_X12_in ?_
  rintro _ h59 _ ⟨rfl, e60, rfl⟩
  replace e60 := e60.symm
  subst e60
  refine r_if_eq (tgt := 22) rfl rfl dX12_labour_11 (fun zc => absurd zc (by decide)) (fun _ => ?_)
  refine r_aload_n rfl dX12_labour_14 rfl ?_
  refine r_iload_n rfl dX12_labour_15 rfl ?_
  refine cl_X12_157 rfl rfl dX12_labour_16 (show 2 ≤ 420 ∧ 420 < 434 by decide).1 (show 2 ≤ 420 ∧ 420 < 434 by decide).2 f55 (Nat.le_of_ble_eq_true rfl) (s_X12_isLine hS52 f55 hc hm) ?_
  rintro _ h61 _ ⟨rfl, e62, rfl⟩
  replace e62 := e62.symm
  subst e62
  refine r_if_ne (tgt := 24) rfl rfl dX12_labour_19 (fun c63 => ?_) (fun c63 => ?_)
  · obtain ⟨i64, hi65, ei66⟩ := isLn (n := c + m) (by omega) c63
    subst ei66
    refine r_aload_n rfl dX12_labour_24 rfl ?_
    refine r_getv 13 rfl dX12_labour_25 (show 2 ≤ 420 ∧ 420 < 434 by decide) f55 fl_X12_17 rfl ?_
    refine r_bipush (v := 6) rfl dX12_labour_28 (by decide) ?_
    refine r_iload_n rfl dX12_labour_30 rfl ?_
    refine r_imul rfl dX12_labour_31 ?_
    refine r_eqi (y := nI (6 * i64)) (show 6 * (nI i64) = nI (6 * i64) from pk_mul 6 i64) ?_
    refine r_ialdv (jn := 6 * i64) (v := G (6 * i64)) rfl dX12_labour_32 (show 2 ≤ 422 ∧ 422 < 434 by decide) f56 (vp_in_nI (n := 6 * i64) (by omega) (by decide)) (nI_clamp (n := 6 * i64) (by omega)) rfl ?_
    refine cl_X12_177 rfl rfl dX12_labour_33 (Nat.le_of_ble_eq_true rfl) (z_X12_ones hS52) ?_
    rintro _ h67 _ ⟨rfl, e68, rfl⟩
    replace e68 := e68.symm
    subst e68
    refine r_aload_n rfl dX12_labour_36 rfl ?_
    refine r_getv 13 rfl dX12_labour_37 (show 2 ≤ 420 ∧ 420 < 434 by decide) f55 fl_X12_17 rfl ?_
    refine r_bipush (v := 6) rfl dX12_labour_40 (by decide) ?_
    refine r_iload_n rfl dX12_labour_42 rfl ?_
    refine r_imul rfl dX12_labour_43 ?_
    refine r_eqi (y := nI (6 * i64)) (show 6 * (nI i64) = nI (6 * i64) from pk_mul 6 i64) ?_
    refine r_iconst (v := 1) rfl dX12_labour_44 (by decide) ?_
    refine r_iadd rfl dX12_labour_45 ?_
    refine r_eqi (y := nI ((6 * i64) + 1)) (show (nI (6 * i64)) + 1 = nI ((6 * i64) + 1) from nI_add (6 * i64) 1) ?_
    refine r_ialdv (jn := (6 * i64) + 1) (v := G ((6 * i64) + 1)) rfl dX12_labour_46 (show 2 ≤ 422 ∧ 422 < 434 by decide) f56 (vp_in_nI (n := (6 * i64) + 1) (by omega) (by decide)) (nI_clamp (n := (6 * i64) + 1) (by omega)) rfl ?_
    refine cl_X12_177 rfl rfl dX12_labour_47 (Nat.le_of_ble_eq_true rfl) (z_X12_ones hS52) ?_
    rintro _ h69 _ ⟨rfl, e70, rfl⟩
    replace e70 := e70.symm
    subst e70
    refine r_iadd rfl dX12_labour_50 ?_
    refine r_topi (fun x71 e72 => ?_)
    refine r_istore_n (ls' := [some (.ref 420), some (.int 0), some (.int (nI i64)), some (.int x71), none]) rfl dX12_labour_51 (Nat.le_of_ble_eq_true rfl) rfl ?_
    refine r_iconst (v := 0) rfl dX12_labour_52 (by decide) ?_
    refine r_istore (ls' := [some (.ref 420), some (.int 0), some (.int (nI i64)), some (.int x71), some (.int 0)]) rfl dX12_labour_53 (Nat.le_of_ble_eq_true rfl) rfl ?_
    refine z_ls0 (T := T) (h0 := h51) (by omega) ?_ 4 0 h51 rfl hS52 (KM_rf _) f55 f56 f57 (by rw [bkR_0]; exact f58)
    intro h73 hS74 hF75 f76 f77 f78 f79
    have hF80 := KM_tr hF53 (KM_sb (by decide) hF75)
    refine r_iload_n rfl dX12_labour_85 rfl ?_
    refine r_aload_n rfl dX12_labour_86 rfl ?_
    refine r_getv 23 rfl dX12_labour_87 (show 2 ≤ 420 ∧ 420 < 434 by decide) f76 fl_X12_48 rfl ?_
    refine cl_X12_160 rfl rfl dX12_labour_90 (Nat.le_of_ble_eq_true rfl) (z_X12_many hS74 (by decide) f79) ?_
    rintro _ h81 _ ⟨rfl, e82, rfl⟩
    replace e82 := e82.symm
    subst e82
    refine r_iadd rfl dX12_labour_93 ?_
    refine r_topi (fun x83 e84 => ?_)
    refine r_istore (ls' := [some (.ref 420), some (.int 0), some (.int (nI i64)), some (.int x71), some (.int x83)]) rfl dX12_labour_94 (Nat.le_of_ble_eq_true rfl) rfl ?_
    refine r_aload_n rfl dX12_labour_96 rfl ?_
    refine r_dup rfl dX12_labour_97 rfl ?_
    refine r_getv 1 rfl dX12_labour_98 (show 2 ≤ 420 ∧ 420 < 434 by decide) f76 fl_X12_183 rfl ?_
    refine r_iload_n rfl dX12_labour_101 rfl ?_
    refine r_if_ne (tgt := 109) rfl rfl dX12_labour_102 (fun zc => absurd zc (by decide)) (fun _ => ?_)
    refine r_lconst (v := 1) rfl dX12_labour_105 (by decide) ?_
    refine r_goto (pc' := 134) rfl dX12_labour_106 ?_
    refine r_ladd rfl dX12_labour_134 ?_
    refine e_put 1 (fs' := [.int 0, .long (tr + 1), .ref 421, .int ty, .int nx, .int tk, .int pl, .int va, .int fa, .int (nI c), .int (nI m), .int ss, .int wg, .ref 422, .ref 423, .ref 424, .ref 425, .ref 426, .ref 427, .ref 428, .ref 429, .ref 430, .ref 431, .ref 432, .ref 433]) rfl dX12_labour_135 (show 2 ≤ 420 ∧ 420 < 434 by decide) hS74 hF80 (by decide) f76 (fp_X12_183 rfl _) (Nat.le_of_ble_eq_true rfl) rfl (fun h85 hS86 hF87 hN88 f89 => ?_)
    have f90 : h85 422 = .inl (0, 240, .inl G) := (hN88 422 (by decide)).trans f77
    have f91 : h85 426 = .inl (1, 480, .inr (.inl Y)) := (hN88 426 (by decide)).trans f78
    have f92 : h85 432 = .inl (1, 4, .inr (.inl (bkR T 0 (fun p => Y (4 * i64 + p)) 4))) := (hN88 432 (by decide)).trans f79
    refine r_iload_n rfl dX12_labour_138 rfl ?_
    refine r_if_ne (tgt := 146) rfl rfl dX12_labour_139 (fun zc => absurd zc (by decide)) (fun _ => ?_)
    refine r_iload_n rfl dX12_labour_142 rfl ?_
    refine r_goto (pc' := 173) rfl dX12_labour_143 ?_
    subst e84
    subst e72
    have e93 := mnN_cg (A := bkR T 0 (fun p => Y (4 * i64 + p)) 4) (B := fun p => Y (4 * i64 + p)) 256 (by omega) (fun p hp => by have q := bkR_in (Y := T) (e := 0) (V := fun p => Y (4 * i64 + p)) hp; rw [show 4 * 0 + p = p by omega] at q; exact q)
    exact r_ret dX12_labour_173 (rt_i rfl) ⟨rfl, hS86, hF87, (by rw [lbN, if_neg (by decide), if_neg c63, if_pos (by decide), nI_clamp (by omega)]; rfl), (by rw [lbT, if_neg (by decide), if_neg c63, if_pos (by decide)]; exact f89)⟩
  · refine r_iconst (v := (-1)) rfl dX12_labour_22 (by decide) ?_
    exact r_ret dX12_labour_23 (rt_i rfl) ⟨rfl, hS52, hF53, by rw [lbN, if_neg (by decide), if_pos c63] <;> rfl, by rw [lbT, if_neg (by decide), if_pos c63]; exact f55⟩
set_option maxRecDepth 20000 in
set_option maxHeartbeats 1000000 in
theorem z_lab1 {xs : Nat → Int32} {L d : Nat} {h : ev_H} {th : Int32} {tr : Int64} {ty nx tk pl va fa ss wg : Int32} {c m : Nat} {y : Int32} {G : Nat → Int32} {Y T : Nat → Int64} (hS : SH h) (h5 : h 420 = .inr (12, [.int th, .long tr, .ref 421, .int ty, .int nx, .int tk, .int pl, .int va, .int fa, .int (nI c), .int (nI m), .int ss, .int wg, .ref 422, .ref 423, .ref 424, .ref 425, .ref 426, .ref 427, .ref 428, .ref 429, .ref 430, .ref 431, .ref 432, .ref 433])) (hc : c ≤ 16) (hm : m ≤ 24) (h22 : h 422 = cI 240 G) (h26 : h 426 = cL 480 Y) (h32 : h 432 = cL 4 T) : EV xs L (d + 2) 0 0 M_X12_labour 434 h 0 [some (.ref 420), some (.int 1), some (.int y), none, none] [] (fun sz' h' r => sz' = 434 ∧ SH h' ∧ KM [420, 432] h h' ∧ r = [.int (lbN G Y (c + m) 1 y)] ∧ h' 420 = c420 0 (lbT 1 y (c + m) tr) ty nx tk pl va fa (nI c) (nI m) ss wg) := by
  refine r_aload_n rfl dX12_labour_0 rfl ?_
  refine r_iconst (v := 0) rfl dX12_labour_1 (by decide) ?_
  refine e_put 0 (fs' := [.int 0, .long tr, .ref 421, .int ty, .int nx, .int tk, .int pl, .int va, .int fa, .int (nI c), .int (nI m), .int ss, .int wg, .ref 422, .ref 423, .ref 424, .ref 425, .ref 426, .ref 427, .ref 428, .ref 429, .ref 430, .ref 431, .ref 432, .ref 433]) rfl dX12_labour_2 (show 2 ≤ 420 ∧ 420 < 434 by decide) hS (KM_rf (Mod := [420, 432]) h) (by decide) h5 (fp_X12_57 rfl _) (Nat.le_of_ble_eq_true rfl) rfl (fun h51 hS52 hF53 hN54 f55 => ?_)
  have f56 : h51 422 = .inl (0, 240, .inl G) := (hN54 422 (by decide)).trans h22
  have f57 : h51 426 = .inl (1, 480, .inr (.inl Y)) := (hN54 426 (by decide)).trans h26
  have f58 : h51 432 = .inl (1, 4, .inr (.inl T)) := (hN54 432 (by decide)).trans h32
  refine r_iload_n rfl dX12_labour_5 rfl ?_
  refine r_iconst (v := 0) rfl dX12_labour_6 (by decide) ?_
  refine r_iconst (v := 3) rfl dX12_labour_7 (by decide) ?_
  refine cl_X12_60 rfl rfl dX12_labour_8 (Nat.le_of_ble_eq_true rfl) s_X12_in ?_
  rintro _ h59 _ ⟨rfl, e60, rfl⟩
  replace e60 := e60.symm
  subst e60
  refine r_if_eq (tgt := 22) rfl rfl dX12_labour_11 (fun zc => absurd zc (by decide)) (fun _ => ?_)
  refine r_aload_n rfl dX12_labour_14 rfl ?_
  refine r_iload_n rfl dX12_labour_15 rfl ?_
  refine cl_X12_157 rfl rfl dX12_labour_16 (show 2 ≤ 420 ∧ 420 < 434 by decide).1 (show 2 ≤ 420 ∧ 420 < 434 by decide).2 f55 (Nat.le_of_ble_eq_true rfl) (s_X12_isLine hS52 f55 hc hm) ?_
  rintro _ h61 _ ⟨rfl, e62, rfl⟩
  replace e62 := e62.symm
  subst e62
  refine r_if_ne (tgt := 24) rfl rfl dX12_labour_19 (fun c63 => ?_) (fun c63 => ?_)
  · obtain ⟨i64, hi65, ei66⟩ := isLn (n := c + m) (by omega) c63
    subst ei66
    refine r_aload_n rfl dX12_labour_24 rfl ?_
    refine r_getv 13 rfl dX12_labour_25 (show 2 ≤ 420 ∧ 420 < 434 by decide) f55 fl_X12_17 rfl ?_
    refine r_bipush (v := 6) rfl dX12_labour_28 (by decide) ?_
    refine r_iload_n rfl dX12_labour_30 rfl ?_
    refine r_imul rfl dX12_labour_31 ?_
    refine r_eqi (y := nI (6 * i64)) (show 6 * (nI i64) = nI (6 * i64) from pk_mul 6 i64) ?_
    refine r_ialdv (jn := 6 * i64) (v := G (6 * i64)) rfl dX12_labour_32 (show 2 ≤ 422 ∧ 422 < 434 by decide) f56 (vp_in_nI (n := 6 * i64) (by omega) (by decide)) (nI_clamp (n := 6 * i64) (by omega)) rfl ?_
    refine cl_X12_177 rfl rfl dX12_labour_33 (Nat.le_of_ble_eq_true rfl) (z_X12_ones hS52) ?_
    rintro _ h67 _ ⟨rfl, e68, rfl⟩
    replace e68 := e68.symm
    subst e68
    refine r_aload_n rfl dX12_labour_36 rfl ?_
    refine r_getv 13 rfl dX12_labour_37 (show 2 ≤ 420 ∧ 420 < 434 by decide) f55 fl_X12_17 rfl ?_
    refine r_bipush (v := 6) rfl dX12_labour_40 (by decide) ?_
    refine r_iload_n rfl dX12_labour_42 rfl ?_
    refine r_imul rfl dX12_labour_43 ?_
    refine r_eqi (y := nI (6 * i64)) (show 6 * (nI i64) = nI (6 * i64) from pk_mul 6 i64) ?_
    refine r_iconst (v := 1) rfl dX12_labour_44 (by decide) ?_
    refine r_iadd rfl dX12_labour_45 ?_
    refine r_eqi (y := nI ((6 * i64) + 1)) (show (nI (6 * i64)) + 1 = nI ((6 * i64) + 1) from nI_add (6 * i64) 1) ?_
    refine r_ialdv (jn := (6 * i64) + 1) (v := G ((6 * i64) + 1)) rfl dX12_labour_46 (show 2 ≤ 422 ∧ 422 < 434 by decide) f56 (vp_in_nI (n := (6 * i64) + 1) (by omega) (by decide)) (nI_clamp (n := (6 * i64) + 1) (by omega)) rfl ?_
    refine cl_X12_177 rfl rfl dX12_labour_47 (Nat.le_of_ble_eq_true rfl) (z_X12_ones hS52) ?_
    rintro _ h69 _ ⟨rfl, e70, rfl⟩
    replace e70 := e70.symm
    subst e70
    refine r_iadd rfl dX12_labour_50 ?_
    refine r_topi (fun x71 e72 => ?_)
    refine r_istore_n (ls' := [some (.ref 420), some (.int 1), some (.int (nI i64)), some (.int x71), none]) rfl dX12_labour_51 (Nat.le_of_ble_eq_true rfl) rfl ?_
    refine r_iconst (v := 0) rfl dX12_labour_52 (by decide) ?_
    refine r_istore (ls' := [some (.ref 420), some (.int 1), some (.int (nI i64)), some (.int x71), some (.int 0)]) rfl dX12_labour_53 (Nat.le_of_ble_eq_true rfl) rfl ?_
    refine z_ls1 (T := T) (h0 := h51) (by omega) ?_ 4 0 h51 rfl hS52 (KM_rf _) f55 f56 f57 (by rw [bkR_0]; exact f58)
    intro h73 hS74 hF75 f76 f77 f78 f79
    have hF80 := KM_tr hF53 (KM_sb (by decide) hF75)
    refine r_iload_n rfl dX12_labour_85 rfl ?_
    refine r_aload_n rfl dX12_labour_86 rfl ?_
    refine r_getv 23 rfl dX12_labour_87 (show 2 ≤ 420 ∧ 420 < 434 by decide) f76 fl_X12_48 rfl ?_
    refine cl_X12_160 rfl rfl dX12_labour_90 (Nat.le_of_ble_eq_true rfl) (z_X12_many hS74 (by decide) f79) ?_
    rintro _ h81 _ ⟨rfl, e82, rfl⟩
    replace e82 := e82.symm
    subst e82
    refine r_iadd rfl dX12_labour_93 ?_
    refine r_topi (fun x83 e84 => ?_)
    refine r_istore (ls' := [some (.ref 420), some (.int 1), some (.int (nI i64)), some (.int x71), some (.int x83)]) rfl dX12_labour_94 (Nat.le_of_ble_eq_true rfl) rfl ?_
    refine r_aload_n rfl dX12_labour_96 rfl ?_
    refine r_dup rfl dX12_labour_97 rfl ?_
    refine r_getv 1 rfl dX12_labour_98 (show 2 ≤ 420 ∧ 420 < 434 by decide) f76 fl_X12_183 rfl ?_
    refine r_iload_n rfl dX12_labour_101 rfl ?_
    refine r_if_ne (tgt := 109) rfl rfl dX12_labour_102 (fun _ => ?_) (fun zc => absurd zc (by decide))
    refine r_iload_n rfl dX12_labour_109 rfl ?_
    refine r_iconst (v := 1) rfl dX12_labour_110 (by decide) ?_
    refine r_icmp_ne (tgt := 120) rfl rfl dX12_labour_111 (fun zc => absurd zc (by decide)) (fun _ => ?_)
    refine r_ldc2 (v := 11) rfl dX12_labour_114 lc_X12_187 ?_
    refine r_goto (pc' := 134) rfl dX12_labour_117 ?_
    refine r_ladd rfl dX12_labour_134 ?_
    refine e_put 1 (fs' := [.int 0, .long (tr + 11), .ref 421, .int ty, .int nx, .int tk, .int pl, .int va, .int fa, .int (nI c), .int (nI m), .int ss, .int wg, .ref 422, .ref 423, .ref 424, .ref 425, .ref 426, .ref 427, .ref 428, .ref 429, .ref 430, .ref 431, .ref 432, .ref 433]) rfl dX12_labour_135 (show 2 ≤ 420 ∧ 420 < 434 by decide) hS74 hF80 (by decide) f76 (fp_X12_183 rfl _) (Nat.le_of_ble_eq_true rfl) rfl (fun h85 hS86 hF87 hN88 f89 => ?_)
    have f90 : h85 422 = .inl (0, 240, .inl G) := (hN88 422 (by decide)).trans f77
    have f91 : h85 426 = .inl (1, 480, .inr (.inl Y)) := (hN88 426 (by decide)).trans f78
    have f92 : h85 432 = .inl (1, 4, .inr (.inl (bkR T 0 (fun p => Y (4 * i64 + p)) 4))) := (hN88 432 (by decide)).trans f79
    refine r_iload_n rfl dX12_labour_138 rfl ?_
    refine r_if_ne (tgt := 146) rfl rfl dX12_labour_139 (fun _ => ?_) (fun zc => absurd zc (by decide))
    refine r_iload_n rfl dX12_labour_146 rfl ?_
    refine r_iconst (v := 1) rfl dX12_labour_147 (by decide) ?_
    refine r_icmp_ne (tgt := 156) rfl rfl dX12_labour_148 (fun zc => absurd zc (by decide)) (fun _ => ?_)
    refine r_iload rfl dX12_labour_151 rfl ?_
    refine r_goto (pc' := 173) rfl dX12_labour_153 ?_
    subst e84
    subst e72
    have e93 := mnN_cg (A := bkR T 0 (fun p => Y (4 * i64 + p)) 4) (B := fun p => Y (4 * i64 + p)) 256 (by omega) (fun p hp => by have q := bkR_in (Y := T) (e := 0) (V := fun p => Y (4 * i64 + p)) hp; rw [show 4 * 0 + p = p by omega] at q; exact q)
    exact r_ret dX12_labour_173 (rt_i rfl) ⟨rfl, hS86, hF87, (by rw [lbN, if_neg (by decide), if_neg c63, if_neg (by decide), if_pos (by decide), nI_clamp (by omega)]; unfold leM liM; rw [← e93] <;> rfl), (by rw [lbT, if_neg (by decide), if_neg c63, if_neg (by decide), if_pos (by decide)]; exact f89)⟩
  · refine r_iconst (v := (-1)) rfl dX12_labour_22 (by decide) ?_
    exact r_ret dX12_labour_23 (rt_i rfl) ⟨rfl, hS52, hF53, by rw [lbN, if_neg (by decide), if_pos c63] <;> rfl, by rw [lbT, if_neg (by decide), if_pos c63]; exact f55⟩
set_option maxRecDepth 20000 in
set_option maxHeartbeats 1000000 in
theorem z_lab2 {xs : Nat → Int32} {L d : Nat} {h : ev_H} {th : Int32} {tr : Int64} {ty nx tk pl va fa ss wg : Int32} {c m : Nat} {y : Int32} {G : Nat → Int32} {Y T : Nat → Int64} (hS : SH h) (h5 : h 420 = .inr (12, [.int th, .long tr, .ref 421, .int ty, .int nx, .int tk, .int pl, .int va, .int fa, .int (nI c), .int (nI m), .int ss, .int wg, .ref 422, .ref 423, .ref 424, .ref 425, .ref 426, .ref 427, .ref 428, .ref 429, .ref 430, .ref 431, .ref 432, .ref 433])) (hc : c ≤ 16) (hm : m ≤ 24) (h22 : h 422 = cI 240 G) (h26 : h 426 = cL 480 Y) (h32 : h 432 = cL 4 T) : EV xs L (d + 2) 0 0 M_X12_labour 434 h 0 [some (.ref 420), some (.int 2), some (.int y), none, none] [] (fun sz' h' r => sz' = 434 ∧ SH h' ∧ KM [420, 432] h h' ∧ r = [.int (lbN G Y (c + m) 2 y)] ∧ h' 420 = c420 0 (lbT 2 y (c + m) tr) ty nx tk pl va fa (nI c) (nI m) ss wg) := by
  refine r_aload_n rfl dX12_labour_0 rfl ?_
  refine r_iconst (v := 0) rfl dX12_labour_1 (by decide) ?_
  refine e_put 0 (fs' := [.int 0, .long tr, .ref 421, .int ty, .int nx, .int tk, .int pl, .int va, .int fa, .int (nI c), .int (nI m), .int ss, .int wg, .ref 422, .ref 423, .ref 424, .ref 425, .ref 426, .ref 427, .ref 428, .ref 429, .ref 430, .ref 431, .ref 432, .ref 433]) rfl dX12_labour_2 (show 2 ≤ 420 ∧ 420 < 434 by decide) hS (KM_rf (Mod := [420, 432]) h) (by decide) h5 (fp_X12_57 rfl _) (Nat.le_of_ble_eq_true rfl) rfl (fun h51 hS52 hF53 hN54 f55 => ?_)
  have f56 : h51 422 = .inl (0, 240, .inl G) := (hN54 422 (by decide)).trans h22
  have f57 : h51 426 = .inl (1, 480, .inr (.inl Y)) := (hN54 426 (by decide)).trans h26
  have f58 : h51 432 = .inl (1, 4, .inr (.inl T)) := (hN54 432 (by decide)).trans h32
  refine r_iload_n rfl dX12_labour_5 rfl ?_
  refine r_iconst (v := 0) rfl dX12_labour_6 (by decide) ?_
  refine r_iconst (v := 3) rfl dX12_labour_7 (by decide) ?_
  refine cl_X12_60 rfl rfl dX12_labour_8 (Nat.le_of_ble_eq_true rfl) s_X12_in ?_
  rintro _ h59 _ ⟨rfl, e60, rfl⟩
  replace e60 := e60.symm
  subst e60
  refine r_if_eq (tgt := 22) rfl rfl dX12_labour_11 (fun zc => absurd zc (by decide)) (fun _ => ?_)
  refine r_aload_n rfl dX12_labour_14 rfl ?_
  refine r_iload_n rfl dX12_labour_15 rfl ?_
  refine cl_X12_157 rfl rfl dX12_labour_16 (show 2 ≤ 420 ∧ 420 < 434 by decide).1 (show 2 ≤ 420 ∧ 420 < 434 by decide).2 f55 (Nat.le_of_ble_eq_true rfl) (s_X12_isLine hS52 f55 hc hm) ?_
  rintro _ h61 _ ⟨rfl, e62, rfl⟩
  replace e62 := e62.symm
  subst e62
  refine r_if_ne (tgt := 24) rfl rfl dX12_labour_19 (fun c63 => ?_) (fun c63 => ?_)
  · obtain ⟨i64, hi65, ei66⟩ := isLn (n := c + m) (by omega) c63
    subst ei66
    refine r_aload_n rfl dX12_labour_24 rfl ?_
    refine r_getv 13 rfl dX12_labour_25 (show 2 ≤ 420 ∧ 420 < 434 by decide) f55 fl_X12_17 rfl ?_
    refine r_bipush (v := 6) rfl dX12_labour_28 (by decide) ?_
    refine r_iload_n rfl dX12_labour_30 rfl ?_
    refine r_imul rfl dX12_labour_31 ?_
    refine r_eqi (y := nI (6 * i64)) (show 6 * (nI i64) = nI (6 * i64) from pk_mul 6 i64) ?_
    refine r_ialdv (jn := 6 * i64) (v := G (6 * i64)) rfl dX12_labour_32 (show 2 ≤ 422 ∧ 422 < 434 by decide) f56 (vp_in_nI (n := 6 * i64) (by omega) (by decide)) (nI_clamp (n := 6 * i64) (by omega)) rfl ?_
    refine cl_X12_177 rfl rfl dX12_labour_33 (Nat.le_of_ble_eq_true rfl) (z_X12_ones hS52) ?_
    rintro _ h67 _ ⟨rfl, e68, rfl⟩
    replace e68 := e68.symm
    subst e68
    refine r_aload_n rfl dX12_labour_36 rfl ?_
    refine r_getv 13 rfl dX12_labour_37 (show 2 ≤ 420 ∧ 420 < 434 by decide) f55 fl_X12_17 rfl ?_
    refine r_bipush (v := 6) rfl dX12_labour_40 (by decide) ?_
    refine r_iload_n rfl dX12_labour_42 rfl ?_
    refine r_imul rfl dX12_labour_43 ?_
    refine r_eqi (y := nI (6 * i64)) (show 6 * (nI i64) = nI (6 * i64) from pk_mul 6 i64) ?_
    refine r_iconst (v := 1) rfl dX12_labour_44 (by decide) ?_
    refine r_iadd rfl dX12_labour_45 ?_
    refine r_eqi (y := nI ((6 * i64) + 1)) (show (nI (6 * i64)) + 1 = nI ((6 * i64) + 1) from nI_add (6 * i64) 1) ?_
    refine r_ialdv (jn := (6 * i64) + 1) (v := G ((6 * i64) + 1)) rfl dX12_labour_46 (show 2 ≤ 422 ∧ 422 < 434 by decide) f56 (vp_in_nI (n := (6 * i64) + 1) (by omega) (by decide)) (nI_clamp (n := (6 * i64) + 1) (by omega)) rfl ?_
    refine cl_X12_177 rfl rfl dX12_labour_47 (Nat.le_of_ble_eq_true rfl) (z_X12_ones hS52) ?_
    rintro _ h69 _ ⟨rfl, e70, rfl⟩
    replace e70 := e70.symm
    subst e70
    refine r_iadd rfl dX12_labour_50 ?_
    refine r_topi (fun x71 e72 => ?_)
    refine r_istore_n (ls' := [some (.ref 420), some (.int 2), some (.int (nI i64)), some (.int x71), none]) rfl dX12_labour_51 (Nat.le_of_ble_eq_true rfl) rfl ?_
    refine r_iconst (v := 0) rfl dX12_labour_52 (by decide) ?_
    refine r_istore (ls' := [some (.ref 420), some (.int 2), some (.int (nI i64)), some (.int x71), some (.int 0)]) rfl dX12_labour_53 (Nat.le_of_ble_eq_true rfl) rfl ?_
    refine z_ls2 (T := T) (h0 := h51) (by omega) ?_ 4 0 h51 rfl hS52 (KM_rf _) f55 f56 f57 (by rw [bkR_0]; exact f58)
    intro h73 hS74 hF75 f76 f77 f78 f79
    have hF80 := KM_tr hF53 (KM_sb (by decide) hF75)
    refine r_iload_n rfl dX12_labour_85 rfl ?_
    refine r_aload_n rfl dX12_labour_86 rfl ?_
    refine r_getv 23 rfl dX12_labour_87 (show 2 ≤ 420 ∧ 420 < 434 by decide) f76 fl_X12_48 rfl ?_
    refine cl_X12_160 rfl rfl dX12_labour_90 (Nat.le_of_ble_eq_true rfl) (z_X12_many hS74 (by decide) f79) ?_
    rintro _ h81 _ ⟨rfl, e82, rfl⟩
    replace e82 := e82.symm
    subst e82
    refine r_iadd rfl dX12_labour_93 ?_
    refine r_topi (fun x83 e84 => ?_)
    refine r_istore (ls' := [some (.ref 420), some (.int 2), some (.int (nI i64)), some (.int x71), some (.int x83)]) rfl dX12_labour_94 (Nat.le_of_ble_eq_true rfl) rfl ?_
    refine r_aload_n rfl dX12_labour_96 rfl ?_
    refine r_dup rfl dX12_labour_97 rfl ?_
    refine r_getv 1 rfl dX12_labour_98 (show 2 ≤ 420 ∧ 420 < 434 by decide) f76 fl_X12_183 rfl ?_
    refine r_iload_n rfl dX12_labour_101 rfl ?_
    refine r_if_ne (tgt := 109) rfl rfl dX12_labour_102 (fun _ => ?_) (fun zc => absurd zc (by decide))
    refine r_iload_n rfl dX12_labour_109 rfl ?_
    refine r_iconst (v := 1) rfl dX12_labour_110 (by decide) ?_
    refine r_icmp_ne (tgt := 120) rfl rfl dX12_labour_111 (fun _ => ?_) (fun zc => absurd zc (by decide))
    refine r_iload_n rfl dX12_labour_120 rfl ?_
    refine r_iconst (v := 2) rfl dX12_labour_121 (by decide) ?_
    refine r_icmp_ne (tgt := 131) rfl rfl dX12_labour_122 (fun zc => absurd zc (by decide)) (fun _ => ?_)
    refine r_ldc2 (v := 101) rfl dX12_labour_125 lc_X12_189 ?_
    refine r_goto (pc' := 134) rfl dX12_labour_128 ?_
    refine r_ladd rfl dX12_labour_134 ?_
    refine e_put 1 (fs' := [.int 0, .long (tr + 101), .ref 421, .int ty, .int nx, .int tk, .int pl, .int va, .int fa, .int (nI c), .int (nI m), .int ss, .int wg, .ref 422, .ref 423, .ref 424, .ref 425, .ref 426, .ref 427, .ref 428, .ref 429, .ref 430, .ref 431, .ref 432, .ref 433]) rfl dX12_labour_135 (show 2 ≤ 420 ∧ 420 < 434 by decide) hS74 hF80 (by decide) f76 (fp_X12_183 rfl _) (Nat.le_of_ble_eq_true rfl) rfl (fun h85 hS86 hF87 hN88 f89 => ?_)
    have f90 : h85 422 = .inl (0, 240, .inl G) := (hN88 422 (by decide)).trans f77
    have f91 : h85 426 = .inl (1, 480, .inr (.inl Y)) := (hN88 426 (by decide)).trans f78
    have f92 : h85 432 = .inl (1, 4, .inr (.inl (bkR T 0 (fun p => Y (4 * i64 + p)) 4))) := (hN88 432 (by decide)).trans f79
    refine r_iload_n rfl dX12_labour_138 rfl ?_
    refine r_if_ne (tgt := 146) rfl rfl dX12_labour_139 (fun _ => ?_) (fun zc => absurd zc (by decide))
    refine r_iload_n rfl dX12_labour_146 rfl ?_
    refine r_iconst (v := 1) rfl dX12_labour_147 (by decide) ?_
    refine r_icmp_ne (tgt := 156) rfl rfl dX12_labour_148 (fun _ => ?_) (fun zc => absurd zc (by decide))
    refine r_iload_n rfl dX12_labour_156 rfl ?_
    refine r_iconst (v := 2) rfl dX12_labour_157 (by decide) ?_
    refine r_icmp_ne (tgt := 169) rfl rfl dX12_labour_158 (fun zc => absurd zc (by decide)) (fun _ => ?_)
    refine r_iconst (v := 2) rfl dX12_labour_161 (by decide) ?_
    refine r_iload_n rfl dX12_labour_162 rfl ?_
    refine r_imul rfl dX12_labour_163 ?_
    refine r_iconst (v := 1) rfl dX12_labour_164 (by decide) ?_
    refine r_iadd rfl dX12_labour_165 ?_
    refine r_goto (pc' := 173) rfl dX12_labour_166 ?_
    subst e84
    subst e72
    have e93 := mnN_cg (A := bkR T 0 (fun p => Y (4 * i64 + p)) 4) (B := fun p => Y (4 * i64 + p)) 256 (by omega) (fun p hp => by have q := bkR_in (Y := T) (e := 0) (V := fun p => Y (4 * i64 + p)) hp; rw [show 4 * 0 + p = p by omega] at q; exact q)
    exact r_ret dX12_labour_173 (rt_i rfl) ⟨rfl, hS86, hF87, (by rw [lbN, if_neg (by decide), if_neg c63, if_neg (by decide), if_neg (by decide), if_pos (by decide), nI_clamp (by omega)]; rfl), (by rw [lbT, if_neg (by decide), if_neg c63, if_neg (by decide), if_neg (by decide), if_pos (by decide)]; exact f89)⟩
  · refine r_iconst (v := (-1)) rfl dX12_labour_22 (by decide) ?_
    exact r_ret dX12_labour_23 (rt_i rfl) ⟨rfl, hS52, hF53, by rw [lbN, if_neg (by decide), if_pos c63] <;> rfl, by rw [lbT, if_neg (by decide), if_pos c63]; exact f55⟩
set_option maxRecDepth 20000 in
set_option maxHeartbeats 1000000 in
theorem z_lab3 {xs : Nat → Int32} {L d : Nat} {h : ev_H} {th : Int32} {tr : Int64} {ty nx tk pl va fa ss wg : Int32} {c m : Nat} {y : Int32} {G : Nat → Int32} {Y T : Nat → Int64} (hS : SH h) (h5 : h 420 = .inr (12, [.int th, .long tr, .ref 421, .int ty, .int nx, .int tk, .int pl, .int va, .int fa, .int (nI c), .int (nI m), .int ss, .int wg, .ref 422, .ref 423, .ref 424, .ref 425, .ref 426, .ref 427, .ref 428, .ref 429, .ref 430, .ref 431, .ref 432, .ref 433])) (hc : c ≤ 16) (hm : m ≤ 24) (h22 : h 422 = cI 240 G) (h26 : h 426 = cL 480 Y) (h32 : h 432 = cL 4 T) : EV xs L (d + 2) 0 0 M_X12_labour 434 h 0 [some (.ref 420), some (.int 3), some (.int y), none, none] [] (fun sz' h' r => sz' = 434 ∧ SH h' ∧ KM [420, 432] h h' ∧ r = [.int (lbN G Y (c + m) 3 y)] ∧ h' 420 = c420 0 (lbT 3 y (c + m) tr) ty nx tk pl va fa (nI c) (nI m) ss wg) := by
  refine r_aload_n rfl dX12_labour_0 rfl ?_
  refine r_iconst (v := 0) rfl dX12_labour_1 (by decide) ?_
  refine e_put 0 (fs' := [.int 0, .long tr, .ref 421, .int ty, .int nx, .int tk, .int pl, .int va, .int fa, .int (nI c), .int (nI m), .int ss, .int wg, .ref 422, .ref 423, .ref 424, .ref 425, .ref 426, .ref 427, .ref 428, .ref 429, .ref 430, .ref 431, .ref 432, .ref 433]) rfl dX12_labour_2 (show 2 ≤ 420 ∧ 420 < 434 by decide) hS (KM_rf (Mod := [420, 432]) h) (by decide) h5 (fp_X12_57 rfl _) (Nat.le_of_ble_eq_true rfl) rfl (fun h51 hS52 hF53 hN54 f55 => ?_)
  have f56 : h51 422 = .inl (0, 240, .inl G) := (hN54 422 (by decide)).trans h22
  have f57 : h51 426 = .inl (1, 480, .inr (.inl Y)) := (hN54 426 (by decide)).trans h26
  have f58 : h51 432 = .inl (1, 4, .inr (.inl T)) := (hN54 432 (by decide)).trans h32
  refine r_iload_n rfl dX12_labour_5 rfl ?_
  refine r_iconst (v := 0) rfl dX12_labour_6 (by decide) ?_
  refine r_iconst (v := 3) rfl dX12_labour_7 (by decide) ?_
  refine cl_X12_60 rfl rfl dX12_labour_8 (Nat.le_of_ble_eq_true rfl) s_X12_in ?_
  rintro _ h59 _ ⟨rfl, e60, rfl⟩
  replace e60 := e60.symm
  subst e60
  refine r_if_eq (tgt := 22) rfl rfl dX12_labour_11 (fun zc => absurd zc (by decide)) (fun _ => ?_)
  refine r_aload_n rfl dX12_labour_14 rfl ?_
  refine r_iload_n rfl dX12_labour_15 rfl ?_
  refine cl_X12_157 rfl rfl dX12_labour_16 (show 2 ≤ 420 ∧ 420 < 434 by decide).1 (show 2 ≤ 420 ∧ 420 < 434 by decide).2 f55 (Nat.le_of_ble_eq_true rfl) (s_X12_isLine hS52 f55 hc hm) ?_
  rintro _ h61 _ ⟨rfl, e62, rfl⟩
  replace e62 := e62.symm
  subst e62
  refine r_if_ne (tgt := 24) rfl rfl dX12_labour_19 (fun c63 => ?_) (fun c63 => ?_)
  · obtain ⟨i64, hi65, ei66⟩ := isLn (n := c + m) (by omega) c63
    subst ei66
    refine r_aload_n rfl dX12_labour_24 rfl ?_
    refine r_getv 13 rfl dX12_labour_25 (show 2 ≤ 420 ∧ 420 < 434 by decide) f55 fl_X12_17 rfl ?_
    refine r_bipush (v := 6) rfl dX12_labour_28 (by decide) ?_
    refine r_iload_n rfl dX12_labour_30 rfl ?_
    refine r_imul rfl dX12_labour_31 ?_
    refine r_eqi (y := nI (6 * i64)) (show 6 * (nI i64) = nI (6 * i64) from pk_mul 6 i64) ?_
    refine r_ialdv (jn := 6 * i64) (v := G (6 * i64)) rfl dX12_labour_32 (show 2 ≤ 422 ∧ 422 < 434 by decide) f56 (vp_in_nI (n := 6 * i64) (by omega) (by decide)) (nI_clamp (n := 6 * i64) (by omega)) rfl ?_
    refine cl_X12_177 rfl rfl dX12_labour_33 (Nat.le_of_ble_eq_true rfl) (z_X12_ones hS52) ?_
    rintro _ h67 _ ⟨rfl, e68, rfl⟩
    replace e68 := e68.symm
    subst e68
    refine r_aload_n rfl dX12_labour_36 rfl ?_
    refine r_getv 13 rfl dX12_labour_37 (show 2 ≤ 420 ∧ 420 < 434 by decide) f55 fl_X12_17 rfl ?_
    refine r_bipush (v := 6) rfl dX12_labour_40 (by decide) ?_
    refine r_iload_n rfl dX12_labour_42 rfl ?_
    refine r_imul rfl dX12_labour_43 ?_
    refine r_eqi (y := nI (6 * i64)) (show 6 * (nI i64) = nI (6 * i64) from pk_mul 6 i64) ?_
    refine r_iconst (v := 1) rfl dX12_labour_44 (by decide) ?_
    refine r_iadd rfl dX12_labour_45 ?_
    refine r_eqi (y := nI ((6 * i64) + 1)) (show (nI (6 * i64)) + 1 = nI ((6 * i64) + 1) from nI_add (6 * i64) 1) ?_
    refine r_ialdv (jn := (6 * i64) + 1) (v := G ((6 * i64) + 1)) rfl dX12_labour_46 (show 2 ≤ 422 ∧ 422 < 434 by decide) f56 (vp_in_nI (n := (6 * i64) + 1) (by omega) (by decide)) (nI_clamp (n := (6 * i64) + 1) (by omega)) rfl ?_
    refine cl_X12_177 rfl rfl dX12_labour_47 (Nat.le_of_ble_eq_true rfl) (z_X12_ones hS52) ?_
    rintro _ h69 _ ⟨rfl, e70, rfl⟩
    replace e70 := e70.symm
    subst e70
    refine r_iadd rfl dX12_labour_50 ?_
    refine r_topi (fun x71 e72 => ?_)
    refine r_istore_n (ls' := [some (.ref 420), some (.int 3), some (.int (nI i64)), some (.int x71), none]) rfl dX12_labour_51 (Nat.le_of_ble_eq_true rfl) rfl ?_
    refine r_iconst (v := 0) rfl dX12_labour_52 (by decide) ?_
    refine r_istore (ls' := [some (.ref 420), some (.int 3), some (.int (nI i64)), some (.int x71), some (.int 0)]) rfl dX12_labour_53 (Nat.le_of_ble_eq_true rfl) rfl ?_
    refine z_ls3 (T := T) (h0 := h51) (by omega) ?_ 4 0 h51 rfl hS52 (KM_rf _) f55 f56 f57 (by rw [bkR_0]; exact f58)
    intro h73 hS74 hF75 f76 f77 f78 f79
    have hF80 := KM_tr hF53 (KM_sb (by decide) hF75)
    refine r_iload_n rfl dX12_labour_85 rfl ?_
    refine r_aload_n rfl dX12_labour_86 rfl ?_
    refine r_getv 23 rfl dX12_labour_87 (show 2 ≤ 420 ∧ 420 < 434 by decide) f76 fl_X12_48 rfl ?_
    refine cl_X12_160 rfl rfl dX12_labour_90 (Nat.le_of_ble_eq_true rfl) (z_X12_many hS74 (by decide) f79) ?_
    rintro _ h81 _ ⟨rfl, e82, rfl⟩
    replace e82 := e82.symm
    subst e82
    refine r_iadd rfl dX12_labour_93 ?_
    refine r_topi (fun x83 e84 => ?_)
    refine r_istore (ls' := [some (.ref 420), some (.int 3), some (.int (nI i64)), some (.int x71), some (.int x83)]) rfl dX12_labour_94 (Nat.le_of_ble_eq_true rfl) rfl ?_
    refine r_aload_n rfl dX12_labour_96 rfl ?_
    refine r_dup rfl dX12_labour_97 rfl ?_
    refine r_getv 1 rfl dX12_labour_98 (show 2 ≤ 420 ∧ 420 < 434 by decide) f76 fl_X12_183 rfl ?_
    refine r_iload_n rfl dX12_labour_101 rfl ?_
    refine r_if_ne (tgt := 109) rfl rfl dX12_labour_102 (fun _ => ?_) (fun zc => absurd zc (by decide))
    refine r_iload_n rfl dX12_labour_109 rfl ?_
    refine r_iconst (v := 1) rfl dX12_labour_110 (by decide) ?_
    refine r_icmp_ne (tgt := 120) rfl rfl dX12_labour_111 (fun _ => ?_) (fun zc => absurd zc (by decide))
    refine r_iload_n rfl dX12_labour_120 rfl ?_
    refine r_iconst (v := 2) rfl dX12_labour_121 (by decide) ?_
    refine r_icmp_ne (tgt := 131) rfl rfl dX12_labour_122 (fun _ => ?_) (fun zc => absurd zc (by decide))
    refine r_ldc2 (v := 1011) rfl dX12_labour_131 lc_X12_191 ?_
    refine r_ladd rfl dX12_labour_134 ?_
    refine e_put 1 (fs' := [.int 0, .long (tr + 1011), .ref 421, .int ty, .int nx, .int tk, .int pl, .int va, .int fa, .int (nI c), .int (nI m), .int ss, .int wg, .ref 422, .ref 423, .ref 424, .ref 425, .ref 426, .ref 427, .ref 428, .ref 429, .ref 430, .ref 431, .ref 432, .ref 433]) rfl dX12_labour_135 (show 2 ≤ 420 ∧ 420 < 434 by decide) hS74 hF80 (by decide) f76 (fp_X12_183 rfl _) (Nat.le_of_ble_eq_true rfl) rfl (fun h85 hS86 hF87 hN88 f89 => ?_)
    have f90 : h85 422 = .inl (0, 240, .inl G) := (hN88 422 (by decide)).trans f77
    have f91 : h85 426 = .inl (1, 480, .inr (.inl Y)) := (hN88 426 (by decide)).trans f78
    have f92 : h85 432 = .inl (1, 4, .inr (.inl (bkR T 0 (fun p => Y (4 * i64 + p)) 4))) := (hN88 432 (by decide)).trans f79
    refine r_iload_n rfl dX12_labour_138 rfl ?_
    refine r_if_ne (tgt := 146) rfl rfl dX12_labour_139 (fun _ => ?_) (fun zc => absurd zc (by decide))
    refine r_iload_n rfl dX12_labour_146 rfl ?_
    refine r_iconst (v := 1) rfl dX12_labour_147 (by decide) ?_
    refine r_icmp_ne (tgt := 156) rfl rfl dX12_labour_148 (fun _ => ?_) (fun zc => absurd zc (by decide))
    refine r_iload_n rfl dX12_labour_156 rfl ?_
    refine r_iconst (v := 2) rfl dX12_labour_157 (by decide) ?_
    refine r_icmp_ne (tgt := 169) rfl rfl dX12_labour_158 (fun _ => ?_) (fun zc => absurd zc (by decide))
    refine r_iload rfl dX12_labour_169 rfl ?_
    refine r_iconst (v := 2) rfl dX12_labour_171 (by decide) ?_
    refine r_idiv rfl dX12_labour_172 (by decide) ?_
    subst e84
    subst e72
    have e93 := mnN_cg (A := bkR T 0 (fun p => Y (4 * i64 + p)) 4) (B := fun p => Y (4 * i64 + p)) 256 (by omega) (fun p hp => by have q := bkR_in (Y := T) (e := 0) (V := fun p => Y (4 * i64 + p)) hp; rw [show 4 * 0 + p = p by omega] at q; exact q)
    exact r_ret dX12_labour_173 (rt_i rfl) ⟨rfl, hS86, hF87, (by rw [lbN, if_neg (by decide), if_neg c63, if_neg (by decide), if_neg (by decide), if_neg (by decide), nI_clamp (by omega)]; unfold leM liM; rw [← e93] <;> rfl), (by rw [lbT, if_neg (by decide), if_neg c63, if_neg (by decide), if_neg (by decide), if_neg (by decide)]; exact f89)⟩
  · refine r_iconst (v := (-1)) rfl dX12_labour_22 (by decide) ?_
    exact r_ret dX12_labour_23 (rt_i rfl) ⟨rfl, hS52, hF53, by rw [lbN, if_neg (by decide), if_pos c63] <;> rfl, by rw [lbT, if_neg (by decide), if_pos c63]; exact f55⟩
