theorem ul_ul (B : Nat → Int64) (p : Nat) (x y : Int64) : vp_updL (vp_updL B p x) p y = vp_updL B p y := funext (fun q => by
  by_cases e : q = p
  · subst e; rw [ul_s, ul_s]
  · rw [ul_n e, ul_n e, ul_n e])
/-- part p of what the first k CLAUSES of side x leave open -/
def aG (G : Nat → Int32) (H : Nat → Int64) (x : Int32) (p : Nat) : Nat → Int64
  | 0 => -1
  | k + 1 => aG G H x p k &&& (if G (6 * k + 2) = x then H (4 * k + p) else -1)
/-- the worlds in which the first k CLAUSES of side x are so -/
def onP (G : Nat → Int32) (x : Int32) : Nat → Nat → Bool
  | 0, _ => true
  | k + 1, w => onP G x k w && (if G (6 * k + 2) = x then soB (G (6 * k)) (G (6 * k + 1)) w else true)
theorem aG_wO {G : Nat → Int32} {H : Nat → Int64} {x : Int32} {p : Nat} (hp : p < 4) : ∀ k, HV k G H → aG G H x p k = wO (onP G x k) p
  | 0, _ => tb_ext (fun j hj => by rw [aG, wO_tb _ p hj, tb_m1 ⟨j, hj⟩]; rfl)
  | k + 1, h => tb_ext (fun j hj => by
    rw [aG, tb_and, aG_wO hp k (fun i hi => h i (by omega)), wO_tb _ p hj, wO_tb _ p hj, onP]
    congr 1
    by_cases e : G (6 * k + 2) = x
    · rw [if_pos e, if_pos e, h k (by omega) p hp, wO_tb _ p hj]
    · rw [if_neg e, if_neg e, tb_m1 ⟨j, hj⟩])
/-- the worlds alike one of P in LETTERS l -/
def spP (P : Nat → Bool) (l w : Nat) : Bool := ksB P l 256 (w &&& l)
theorem wO_not {P : Nat → Bool} {p : Nat} : wO P p ^^^ (-1) = wO (fun w => !P w) p := tb_ext (fun j hj => by rw [tb_not hj, wO_tb _ p hj, wO_tb _ p hj])
def BR (G : Nat → Int32) (c l : Nat) (h : ev_H) : Prop := ∃ O1 T1 S1 W1, h 427 = cL 4 O1 ∧ h 428 = cL 4 T1 ∧ h 429 = cL 4 S1 ∧ h 430 = cL 4 W1 ∧ ∀ p, p < 4 → O1 p = wO (onP G 1 c) p ∧ T1 p = wO (onP G 2 c) p ∧ S1 p = wO (spP (onP G 1 c) l) p ∧ W1 p = wO (fun w => !spP (onP G 2 c) l w) p
set_option maxRecDepth 20000 in
set_option maxHeartbeats 1000000 in
theorem z_bi_z {xs : Nat → Int32} {L d : Nat} {h : ev_H} {h0 : ev_H} {th : Int32} {tr : Int64} {ty nx tk pl va fa ss wg : Int32} {c m : Nat} {l : Nat} {G : Nat → Int32} {H : Nat → Int64} {p : Nat} {B1 B2 S0 W0 : Nat → Int64} {Q : ev_Q} {k : Nat} (hS : SH h) (hc : c ≤ 16) (hm : m ≤ 24) (hl : l < 256) (hH : HV c G H) (hp : p < 4) (kx : ∀ h' : ev_H, SH h' → KM [427, 428, 429, 430] h0 h' → h' 420 = .inr (12, [.int th, .long tr, .ref 421, .int ty, .int nx, .int tk, .int pl, .int va, .int fa, .int (nI c), .int (nI m), .int ss, .int wg, .ref 422, .ref 423, .ref 424, .ref 425, .ref 426, .ref 427, .ref 428, .ref 429, .ref 430, .ref 431, .ref 432, .ref 433]) → h' 422 = .inl (0, 240, .inl G) → h' 425 = .inl (1, 160, .inr (.inl H)) → h' 427 = .inl (1, 4, .inr (.inl (vp_updL B1 p (aG G H 1 p c)))) → h' 428 = .inl (1, 4, .inr (.inl (vp_updL B2 p (aG G H 2 p c)))) → h' 429 = .inl (1, 4, .inr (.inl S0)) → h' 430 = .inl (1, 4, .inr (.inl W0)) → EV xs L (d + 2) 0 0 M_X12_bounds 434 h' 126 [some (.ref 420), some (.int (nI l)), some (.int (nI p)), some (.int (nI c))] [] Q) (hF : KM [427, 428, 429, 430] h0 h) (h5 : h 420 = .inr (12, [.int th, .long tr, .ref 421, .int ty, .int nx, .int tk, .int pl, .int va, .int fa, .int (nI c), .int (nI m), .int ss, .int wg, .ref 422, .ref 423, .ref 424, .ref 425, .ref 426, .ref 427, .ref 428, .ref 429, .ref 430, .ref 431, .ref 432, .ref 433])) (h22 : h 422 = .inl (0, 240, .inl G)) (h25 : h 425 = .inl (1, 160, .inr (.inl H))) (h27 : h 427 = .inl (1, 4, .inr (.inl (vp_updL B1 p (aG G H 1 p (k)))))) (h28 : h 428 = .inl (1, 4, .inr (.inl (vp_updL B2 p (aG G H 2 p (k)))))) (h29 : h 429 = .inl (1, 4, .inr (.inl S0))) (h30 : h 430 = .inl (1, 4, .inr (.inl W0))) (hk : k = c) : EV xs L (d + 2) 0 0 M_X12_bounds 434 h 32 [some (.ref 420), some (.int (nI l)), some (.int (nI p)), some (.int (nI k))] [] Q := by
  refine r_iload_n rfl dX12_bounds_32 rfl ?_
  refine r_aload_n rfl dX12_bounds_33 rfl ?_
  refine r_getv 9 rfl dX12_bounds_34 (show 2 ≤ 420 ∧ 420 < 434 by decide) h5 fl_X12_112 rfl ?_
  refine r_icmp_ge (tgt := 126) rfl rfl dX12_bounds_37 (fun _ => ?_) (fun zc => absurd (show nI (c) ≤ nI k from nI_le (a := c) (b := k) (by omega) (by omega)) zc)
  subst hk
  exact kx h hS hF h5 h22 h25 h27 h28 h29 h30
set_option maxRecDepth 20000 in
set_option maxHeartbeats 1000000 in
theorem z_bi_s {xs : Nat → Int32} {L d : Nat} {h : ev_H} {h0 : ev_H} {th : Int32} {tr : Int64} {ty nx tk pl va fa ss wg : Int32} {c m : Nat} {l : Nat} {G : Nat → Int32} {H : Nat → Int64} {p : Nat} {B1 B2 S0 W0 : Nat → Int64} {Q : ev_Q} {k : Nat} (hS : SH h) (hc : c ≤ 16) (hm : m ≤ 24) (hl : l < 256) (hH : HV c G H) (hp : p < 4) (kx : ∀ h' : ev_H, SH h' → KM [427, 428, 429, 430] h0 h' → h' 420 = .inr (12, [.int th, .long tr, .ref 421, .int ty, .int nx, .int tk, .int pl, .int va, .int fa, .int (nI c), .int (nI m), .int ss, .int wg, .ref 422, .ref 423, .ref 424, .ref 425, .ref 426, .ref 427, .ref 428, .ref 429, .ref 430, .ref 431, .ref 432, .ref 433]) → h' 422 = .inl (0, 240, .inl G) → h' 425 = .inl (1, 160, .inr (.inl H)) → h' 427 = .inl (1, 4, .inr (.inl (vp_updL B1 p (aG G H 1 p c)))) → h' 428 = .inl (1, 4, .inr (.inl (vp_updL B2 p (aG G H 2 p c)))) → h' 429 = .inl (1, 4, .inr (.inl S0)) → h' 430 = .inl (1, 4, .inr (.inl W0)) → EV xs L (d + 2) 0 0 M_X12_bounds 434 h' 126 [some (.ref 420), some (.int (nI l)), some (.int (nI p)), some (.int (nI c))] [] Q) (hF : KM [427, 428, 429, 430] h0 h) (h5 : h 420 = .inr (12, [.int th, .long tr, .ref 421, .int ty, .int nx, .int tk, .int pl, .int va, .int fa, .int (nI c), .int (nI m), .int ss, .int wg, .ref 422, .ref 423, .ref 424, .ref 425, .ref 426, .ref 427, .ref 428, .ref 429, .ref 430, .ref 431, .ref 432, .ref 433])) (h22 : h 422 = .inl (0, 240, .inl G)) (h25 : h 425 = .inl (1, 160, .inr (.inl H))) (h27 : h 427 = .inl (1, 4, .inr (.inl (vp_updL B1 p (aG G H 1 p (k)))))) (h28 : h 428 = .inl (1, 4, .inr (.inl (vp_updL B2 p (aG G H 2 p (k)))))) (h29 : h 429 = .inl (1, 4, .inr (.inl S0))) (h30 : h 430 = .inl (1, 4, .inr (.inl W0))) (hk : k < c) (ih : ∀ (h' : ev_H), SH h' → KM [427, 428, 429, 430] h0 h' → h' 420 = .inr (12, [.int th, .long tr, .ref 421, .int ty, .int nx, .int tk, .int pl, .int va, .int fa, .int (nI c), .int (nI m), .int ss, .int wg, .ref 422, .ref 423, .ref 424, .ref 425, .ref 426, .ref 427, .ref 428, .ref 429, .ref 430, .ref 431, .ref 432, .ref 433]) → h' 422 = .inl (0, 240, .inl G) → h' 425 = .inl (1, 160, .inr (.inl H)) → h' 427 = .inl (1, 4, .inr (.inl (vp_updL B1 p (aG G H 1 p (k + 1))))) → h' 428 = .inl (1, 4, .inr (.inl (vp_updL B2 p (aG G H 2 p (k + 1))))) → h' 429 = .inl (1, 4, .inr (.inl S0)) → h' 430 = .inl (1, 4, .inr (.inl W0)) → EV xs L (d + 2) 0 0 M_X12_bounds 434 h' 32 [some (.ref 420), some (.int (nI l)), some (.int (nI p)), some (.int (nI (k + 1)))] [] Q) : EV xs L (d + 2) 0 0 M_X12_bounds 434 h 32 [some (.ref 420), some (.int (nI l)), some (.int (nI p)), some (.int (nI k))] [] Q := by
  refine r_iload_n rfl dX12_bounds_32 rfl ?_
  refine r_aload_n rfl dX12_bounds_33 rfl ?_
  refine r_getv 9 rfl dX12_bounds_34 (show 2 ≤ 420 ∧ 420 < 434 by decide) h5 fl_X12_112 rfl ?_
  refine r_icmp_ge (tgt := 126) rfl rfl dX12_bounds_37 (fun zc => absurd zc (show ¬ nI (c) ≤ nI k from nI_ge (a := k) (b := c) (by omega) (by omega))) (fun _ => ?_)
  refine r_aload_n rfl dX12_bounds_40 rfl ?_
  refine r_getv 18 rfl dX12_bounds_41 (show 2 ≤ 420 ∧ 420 < 434 by decide) h5 fl_X12_33 rfl ?_
  refine r_iload_n rfl dX12_bounds_44 rfl ?_
  refine r_dup2 rfl dX12_bounds_45 (by intro q; cases q) (by intro q; cases q) ?_
  refine r_laldv (jn := p) (v := aG G H 1 p (k)) rfl dX12_bounds_46 (show 2 ≤ 427 ∧ 427 < 434 by decide) h27 (vp_in_nI (n := p) (by omega) (by decide)) (nI_clamp (n := p) (by omega)) (ul_s _ _ _) ?_
  refine r_aload_n rfl dX12_bounds_47 rfl ?_
  refine r_getv 13 rfl dX12_bounds_48 (show 2 ≤ 420 ∧ 420 < 434 by decide) h5 fl_X12_17 rfl ?_
  refine r_bipush (v := 6) rfl dX12_bounds_51 (by decide) ?_
  refine r_iload_n rfl dX12_bounds_53 rfl ?_
  refine r_imul rfl dX12_bounds_54 ?_
  refine r_eqi (y := nI (6 * k)) (show 6 * (nI k) = nI (6 * k) from pk_mul 6 k) ?_
  refine r_iconst (v := 2) rfl dX12_bounds_55 (by decide) ?_
  refine r_iadd rfl dX12_bounds_56 ?_
  refine r_eqi (y := nI ((6 * k) + 2)) (show (nI (6 * k)) + 2 = nI ((6 * k) + 2) from nI_add (6 * k) 2) ?_
  refine r_ialdv (jn := (6 * k) + 2) (v := G ((6 * k) + 2)) rfl dX12_bounds_57 (show 2 ≤ 422 ∧ 422 < 434 by decide) h22 (vp_in_nI (n := (6 * k) + 2) (by omega) (by decide)) (nI_clamp (n := (6 * k) + 2) (by omega)) rfl ?_
  refine r_iconst (v := 1) rfl dX12_bounds_58 (by decide) ?_
  refine r_icmp_ne (tgt := 75) rfl rfl dX12_bounds_59 (fun c51 => ?_) (fun c51 => ?_)
  · refine r_ldc2 (v := (-1)) rfl dX12_bounds_75 lc_X12_137 ?_
    refine r_land rfl dX12_bounds_78 ?_
    refine e_last (jn := p) rfl dX12_bounds_79 (show 2 ≤ 427 ∧ 427 < 434 by decide) hS hF (by decide) h27 (vp_in_nI (n := p) (by omega) (by decide)) (nI_clamp (n := p) (by omega)) (fun h52 hS53 hF54 hN55 f56 => ?_)
    have f57 : h52 420 = .inr (12, [.int th, .long tr, .ref 421, .int ty, .int nx, .int tk, .int pl, .int va, .int fa, .int (nI c), .int (nI m), .int ss, .int wg, .ref 422, .ref 423, .ref 424, .ref 425, .ref 426, .ref 427, .ref 428, .ref 429, .ref 430, .ref 431, .ref 432, .ref 433]) := (hN55 420 (by decide)).trans h5
    have f58 : h52 422 = .inl (0, 240, .inl G) := (hN55 422 (by decide)).trans h22
    have f59 : h52 425 = .inl (1, 160, .inr (.inl H)) := (hN55 425 (by decide)).trans h25
    have f60 : h52 428 = .inl (1, 4, .inr (.inl (vp_updL B2 p (aG G H 2 p (k))))) := (hN55 428 (by decide)).trans h28
    have f61 : h52 429 = .inl (1, 4, .inr (.inl S0)) := (hN55 429 (by decide)).trans h29
    have f62 : h52 430 = .inl (1, 4, .inr (.inl W0)) := (hN55 430 (by decide)).trans h30
    refine r_aload_n rfl dX12_bounds_80 rfl ?_
    refine r_getv 19 rfl dX12_bounds_81 (show 2 ≤ 420 ∧ 420 < 434 by decide) f57 fl_X12_36 rfl ?_
    refine r_iload_n rfl dX12_bounds_84 rfl ?_
    refine r_dup2 rfl dX12_bounds_85 (by intro q; cases q) (by intro q; cases q) ?_
    refine r_laldv (jn := p) (v := aG G H 2 p (k)) rfl dX12_bounds_86 (show 2 ≤ 428 ∧ 428 < 434 by decide) f60 (vp_in_nI (n := p) (by omega) (by decide)) (nI_clamp (n := p) (by omega)) (ul_s _ _ _) ?_
    refine r_aload_n rfl dX12_bounds_87 rfl ?_
    refine r_getv 13 rfl dX12_bounds_88 (show 2 ≤ 420 ∧ 420 < 434 by decide) f57 fl_X12_17 rfl ?_
    refine r_bipush (v := 6) rfl dX12_bounds_91 (by decide) ?_
    refine r_iload_n rfl dX12_bounds_93 rfl ?_
    refine r_imul rfl dX12_bounds_94 ?_
    refine r_eqi (y := nI (6 * k)) (show 6 * (nI k) = nI (6 * k) from pk_mul 6 k) ?_
    refine r_iconst (v := 2) rfl dX12_bounds_95 (by decide) ?_
    refine r_iadd rfl dX12_bounds_96 ?_
    refine r_eqi (y := nI ((6 * k) + 2)) (show (nI (6 * k)) + 2 = nI ((6 * k) + 2) from nI_add (6 * k) 2) ?_
    refine r_ialdv (jn := (6 * k) + 2) (v := G ((6 * k) + 2)) rfl dX12_bounds_97 (show 2 ≤ 422 ∧ 422 < 434 by decide) f58 (vp_in_nI (n := (6 * k) + 2) (by omega) (by decide)) (nI_clamp (n := (6 * k) + 2) (by omega)) rfl ?_
    refine r_iconst (v := 2) rfl dX12_bounds_98 (by decide) ?_
    refine r_icmp_ne (tgt := 115) rfl rfl dX12_bounds_99 (fun c63 => ?_) (fun c63 => ?_)
    · refine r_ldc2 (v := (-1)) rfl dX12_bounds_115 lc_X12_137 ?_
      refine r_land rfl dX12_bounds_118 ?_
      refine e_last (jn := p) rfl dX12_bounds_119 (show 2 ≤ 428 ∧ 428 < 434 by decide) hS53 hF54 (by decide) f60 (vp_in_nI (n := p) (by omega) (by decide)) (nI_clamp (n := p) (by omega)) (fun h64 hS65 hF66 hN67 f68 => ?_)
      have f69 : h64 420 = .inr (12, [.int th, .long tr, .ref 421, .int ty, .int nx, .int tk, .int pl, .int va, .int fa, .int (nI c), .int (nI m), .int ss, .int wg, .ref 422, .ref 423, .ref 424, .ref 425, .ref 426, .ref 427, .ref 428, .ref 429, .ref 430, .ref 431, .ref 432, .ref 433]) := (hN67 420 (by decide)).trans f57
      have f70 : h64 422 = .inl (0, 240, .inl G) := (hN67 422 (by decide)).trans f58
      have f71 : h64 425 = .inl (1, 160, .inr (.inl H)) := (hN67 425 (by decide)).trans f59
      have f72 : h64 429 = .inl (1, 4, .inr (.inl S0)) := (hN67 429 (by decide)).trans f61
      have f73 : h64 430 = .inl (1, 4, .inr (.inl W0)) := (hN67 430 (by decide)).trans f62
      have f74 : h64 427 = .inl (1, 4, .inr (.inl (vp_updL (vp_updL B1 p (aG G H 1 p (k))) p ((aG G H 1 p (k)) &&& (-1))))) := (hN67 427 (by decide)).trans f56
      refine r_iinc (y := nI (k + 1)) (ls' := [some (.ref 420), some (.int (nI l)), some (.int (nI p)), some (.int (nI (k + 1)))]) rfl dX12_bounds_120 rfl (nI_1 k) (Nat.le_of_ble_eq_true rfl) rfl ?_
      refine r_goto (pc' := 32) rfl dX12_bounds_123 ?_
      exact ih h64 hS65 hF66 f69 f70 f71 (by rw [aG, if_neg c51, ← ul_ul B1 p (aG G H 1 p k)]; exact f74) (by rw [aG, if_neg c63, ← ul_ul B2 p (aG G H 2 p k)]; exact f68) f72 f73
    · refine r_aload_n rfl dX12_bounds_102 rfl ?_
      refine r_getv 16 rfl dX12_bounds_103 (show 2 ≤ 420 ∧ 420 < 434 by decide) f57 fl_X12_26 rfl ?_
      refine r_iconst (v := 4) rfl dX12_bounds_106 (by decide) ?_
      refine r_iload_n rfl dX12_bounds_107 rfl ?_
      refine r_imul rfl dX12_bounds_108 ?_
      refine r_eqi (y := nI (4 * k)) (show 4 * (nI k) = nI (4 * k) from pk_mul 4 k) ?_
      refine r_iload_n rfl dX12_bounds_109 rfl ?_
      refine r_iadd rfl dX12_bounds_110 ?_
      refine r_eqi (y := nI ((4 * k) + p)) (show (nI (4 * k)) + (nI p) = nI ((4 * k) + p) from nI_add (4 * k) p) ?_
      refine r_laldv (jn := (4 * k) + p) (v := H ((4 * k) + p)) rfl dX12_bounds_111 (show 2 ≤ 425 ∧ 425 < 434 by decide) f59 (vp_in_nI (n := (4 * k) + p) (by omega) (by decide)) (nI_clamp (n := (4 * k) + p) (by omega)) rfl ?_
      refine r_goto (pc' := 118) rfl dX12_bounds_112 ?_
      refine r_land rfl dX12_bounds_118 ?_
      refine e_last (jn := p) rfl dX12_bounds_119 (show 2 ≤ 428 ∧ 428 < 434 by decide) hS53 hF54 (by decide) f60 (vp_in_nI (n := p) (by omega) (by decide)) (nI_clamp (n := p) (by omega)) (fun h75 hS76 hF77 hN78 f79 => ?_)
      have f80 : h75 420 = .inr (12, [.int th, .long tr, .ref 421, .int ty, .int nx, .int tk, .int pl, .int va, .int fa, .int (nI c), .int (nI m), .int ss, .int wg, .ref 422, .ref 423, .ref 424, .ref 425, .ref 426, .ref 427, .ref 428, .ref 429, .ref 430, .ref 431, .ref 432, .ref 433]) := (hN78 420 (by decide)).trans f57
      have f81 : h75 422 = .inl (0, 240, .inl G) := (hN78 422 (by decide)).trans f58
      have f82 : h75 425 = .inl (1, 160, .inr (.inl H)) := (hN78 425 (by decide)).trans f59
      have f83 : h75 429 = .inl (1, 4, .inr (.inl S0)) := (hN78 429 (by decide)).trans f61
      have f84 : h75 430 = .inl (1, 4, .inr (.inl W0)) := (hN78 430 (by decide)).trans f62
      have f85 : h75 427 = .inl (1, 4, .inr (.inl (vp_updL (vp_updL B1 p (aG G H 1 p (k))) p ((aG G H 1 p (k)) &&& (-1))))) := (hN78 427 (by decide)).trans f56
      refine r_iinc (y := nI (k + 1)) (ls' := [some (.ref 420), some (.int (nI l)), some (.int (nI p)), some (.int (nI (k + 1)))]) rfl dX12_bounds_120 rfl (nI_1 k) (Nat.le_of_ble_eq_true rfl) rfl ?_
      refine r_goto (pc' := 32) rfl dX12_bounds_123 ?_
      exact ih h75 hS76 hF77 f80 f81 f82 (by rw [aG, if_neg c51, ← ul_ul B1 p (aG G H 1 p k)]; exact f85) (by rw [aG, if_pos c63, ← ul_ul B2 p (aG G H 2 p k)]; exact f79) f83 f84
  · refine r_aload_n rfl dX12_bounds_62 rfl ?_
    refine r_getv 16 rfl dX12_bounds_63 (show 2 ≤ 420 ∧ 420 < 434 by decide) h5 fl_X12_26 rfl ?_
    refine r_iconst (v := 4) rfl dX12_bounds_66 (by decide) ?_
    refine r_iload_n rfl dX12_bounds_67 rfl ?_
    refine r_imul rfl dX12_bounds_68 ?_
    refine r_eqi (y := nI (4 * k)) (show 4 * (nI k) = nI (4 * k) from pk_mul 4 k) ?_
    refine r_iload_n rfl dX12_bounds_69 rfl ?_
    refine r_iadd rfl dX12_bounds_70 ?_
    refine r_eqi (y := nI ((4 * k) + p)) (show (nI (4 * k)) + (nI p) = nI ((4 * k) + p) from nI_add (4 * k) p) ?_
    refine r_laldv (jn := (4 * k) + p) (v := H ((4 * k) + p)) rfl dX12_bounds_71 (show 2 ≤ 425 ∧ 425 < 434 by decide) h25 (vp_in_nI (n := (4 * k) + p) (by omega) (by decide)) (nI_clamp (n := (4 * k) + p) (by omega)) rfl ?_
    refine r_goto (pc' := 78) rfl dX12_bounds_72 ?_
    refine r_land rfl dX12_bounds_78 ?_
    refine e_last (jn := p) rfl dX12_bounds_79 (show 2 ≤ 427 ∧ 427 < 434 by decide) hS hF (by decide) h27 (vp_in_nI (n := p) (by omega) (by decide)) (nI_clamp (n := p) (by omega)) (fun h86 hS87 hF88 hN89 f90 => ?_)
    have f91 : h86 420 = .inr (12, [.int th, .long tr, .ref 421, .int ty, .int nx, .int tk, .int pl, .int va, .int fa, .int (nI c), .int (nI m), .int ss, .int wg, .ref 422, .ref 423, .ref 424, .ref 425, .ref 426, .ref 427, .ref 428, .ref 429, .ref 430, .ref 431, .ref 432, .ref 433]) := (hN89 420 (by decide)).trans h5
    have f92 : h86 422 = .inl (0, 240, .inl G) := (hN89 422 (by decide)).trans h22
    have f93 : h86 425 = .inl (1, 160, .inr (.inl H)) := (hN89 425 (by decide)).trans h25
    have f94 : h86 428 = .inl (1, 4, .inr (.inl (vp_updL B2 p (aG G H 2 p (k))))) := (hN89 428 (by decide)).trans h28
    have f95 : h86 429 = .inl (1, 4, .inr (.inl S0)) := (hN89 429 (by decide)).trans h29
    have f96 : h86 430 = .inl (1, 4, .inr (.inl W0)) := (hN89 430 (by decide)).trans h30
    refine r_aload_n rfl dX12_bounds_80 rfl ?_
    refine r_getv 19 rfl dX12_bounds_81 (show 2 ≤ 420 ∧ 420 < 434 by decide) f91 fl_X12_36 rfl ?_
    refine r_iload_n rfl dX12_bounds_84 rfl ?_
    refine r_dup2 rfl dX12_bounds_85 (by intro q; cases q) (by intro q; cases q) ?_
    refine r_laldv (jn := p) (v := aG G H 2 p (k)) rfl dX12_bounds_86 (show 2 ≤ 428 ∧ 428 < 434 by decide) f94 (vp_in_nI (n := p) (by omega) (by decide)) (nI_clamp (n := p) (by omega)) (ul_s _ _ _) ?_
    refine r_aload_n rfl dX12_bounds_87 rfl ?_
    refine r_getv 13 rfl dX12_bounds_88 (show 2 ≤ 420 ∧ 420 < 434 by decide) f91 fl_X12_17 rfl ?_
    refine r_bipush (v := 6) rfl dX12_bounds_91 (by decide) ?_
    refine r_iload_n rfl dX12_bounds_93 rfl ?_
    refine r_imul rfl dX12_bounds_94 ?_
    refine r_eqi (y := nI (6 * k)) (show 6 * (nI k) = nI (6 * k) from pk_mul 6 k) ?_
    refine r_iconst (v := 2) rfl dX12_bounds_95 (by decide) ?_
    refine r_iadd rfl dX12_bounds_96 ?_
    refine r_eqi (y := nI ((6 * k) + 2)) (show (nI (6 * k)) + 2 = nI ((6 * k) + 2) from nI_add (6 * k) 2) ?_
    refine r_ialdv (jn := (6 * k) + 2) (v := G ((6 * k) + 2)) rfl dX12_bounds_97 (show 2 ≤ 422 ∧ 422 < 434 by decide) f92 (vp_in_nI (n := (6 * k) + 2) (by omega) (by decide)) (nI_clamp (n := (6 * k) + 2) (by omega)) rfl ?_
    refine r_iconst (v := 2) rfl dX12_bounds_98 (by decide) ?_
    refine r_icmp_ne (tgt := 115) rfl rfl dX12_bounds_99 (fun c97 => ?_) (fun c97 => ?_)
    · refine r_ldc2 (v := (-1)) rfl dX12_bounds_115 lc_X12_137 ?_
      refine r_land rfl dX12_bounds_118 ?_
      refine e_last (jn := p) rfl dX12_bounds_119 (show 2 ≤ 428 ∧ 428 < 434 by decide) hS87 hF88 (by decide) f94 (vp_in_nI (n := p) (by omega) (by decide)) (nI_clamp (n := p) (by omega)) (fun h98 hS99 hF100 hN101 f102 => ?_)
      have f103 : h98 420 = .inr (12, [.int th, .long tr, .ref 421, .int ty, .int nx, .int tk, .int pl, .int va, .int fa, .int (nI c), .int (nI m), .int ss, .int wg, .ref 422, .ref 423, .ref 424, .ref 425, .ref 426, .ref 427, .ref 428, .ref 429, .ref 430, .ref 431, .ref 432, .ref 433]) := (hN101 420 (by decide)).trans f91
      have f104 : h98 422 = .inl (0, 240, .inl G) := (hN101 422 (by decide)).trans f92
      have f105 : h98 425 = .inl (1, 160, .inr (.inl H)) := (hN101 425 (by decide)).trans f93
      have f106 : h98 429 = .inl (1, 4, .inr (.inl S0)) := (hN101 429 (by decide)).trans f95
      have f107 : h98 430 = .inl (1, 4, .inr (.inl W0)) := (hN101 430 (by decide)).trans f96
      have f108 : h98 427 = .inl (1, 4, .inr (.inl (vp_updL (vp_updL B1 p (aG G H 1 p (k))) p ((aG G H 1 p (k)) &&& (H ((4 * k) + p)))))) := (hN101 427 (by decide)).trans f90
      refine r_iinc (y := nI (k + 1)) (ls' := [some (.ref 420), some (.int (nI l)), some (.int (nI p)), some (.int (nI (k + 1)))]) rfl dX12_bounds_120 rfl (nI_1 k) (Nat.le_of_ble_eq_true rfl) rfl ?_
      refine r_goto (pc' := 32) rfl dX12_bounds_123 ?_
      exact ih h98 hS99 hF100 f103 f104 f105 (by rw [aG, if_pos c51, ← ul_ul B1 p (aG G H 1 p k)]; exact f108) (by rw [aG, if_neg c97, ← ul_ul B2 p (aG G H 2 p k)]; exact f102) f106 f107
    · refine r_aload_n rfl dX12_bounds_102 rfl ?_
      refine r_getv 16 rfl dX12_bounds_103 (show 2 ≤ 420 ∧ 420 < 434 by decide) f91 fl_X12_26 rfl ?_
      refine r_iconst (v := 4) rfl dX12_bounds_106 (by decide) ?_
      refine r_iload_n rfl dX12_bounds_107 rfl ?_
      refine r_imul rfl dX12_bounds_108 ?_
      refine r_eqi (y := nI (4 * k)) (show 4 * (nI k) = nI (4 * k) from pk_mul 4 k) ?_
      refine r_iload_n rfl dX12_bounds_109 rfl ?_
      refine r_iadd rfl dX12_bounds_110 ?_
      refine r_eqi (y := nI ((4 * k) + p)) (show (nI (4 * k)) + (nI p) = nI ((4 * k) + p) from nI_add (4 * k) p) ?_
      refine r_laldv (jn := (4 * k) + p) (v := H ((4 * k) + p)) rfl dX12_bounds_111 (show 2 ≤ 425 ∧ 425 < 434 by decide) f93 (vp_in_nI (n := (4 * k) + p) (by omega) (by decide)) (nI_clamp (n := (4 * k) + p) (by omega)) rfl ?_
      refine r_goto (pc' := 118) rfl dX12_bounds_112 ?_
      refine r_land rfl dX12_bounds_118 ?_
      refine e_last (jn := p) rfl dX12_bounds_119 (show 2 ≤ 428 ∧ 428 < 434 by decide) hS87 hF88 (by decide) f94 (vp_in_nI (n := p) (by omega) (by decide)) (nI_clamp (n := p) (by omega)) (fun h109 hS110 hF111 hN112 f113 => ?_)
      have f114 : h109 420 = .inr (12, [.int th, .long tr, .ref 421, .int ty, .int nx, .int tk, .int pl, .int va, .int fa, .int (nI c), .int (nI m), .int ss, .int wg, .ref 422, .ref 423, .ref 424, .ref 425, .ref 426, .ref 427, .ref 428, .ref 429, .ref 430, .ref 431, .ref 432, .ref 433]) := (hN112 420 (by decide)).trans f91
      have f115 : h109 422 = .inl (0, 240, .inl G) := (hN112 422 (by decide)).trans f92
      have f116 : h109 425 = .inl (1, 160, .inr (.inl H)) := (hN112 425 (by decide)).trans f93
      have f117 : h109 429 = .inl (1, 4, .inr (.inl S0)) := (hN112 429 (by decide)).trans f95
      have f118 : h109 430 = .inl (1, 4, .inr (.inl W0)) := (hN112 430 (by decide)).trans f96
      have f119 : h109 427 = .inl (1, 4, .inr (.inl (vp_updL (vp_updL B1 p (aG G H 1 p (k))) p ((aG G H 1 p (k)) &&& (H ((4 * k) + p)))))) := (hN112 427 (by decide)).trans f90
      refine r_iinc (y := nI (k + 1)) (ls' := [some (.ref 420), some (.int (nI l)), some (.int (nI p)), some (.int (nI (k + 1)))]) rfl dX12_bounds_120 rfl (nI_1 k) (Nat.le_of_ble_eq_true rfl) rfl ?_
      refine r_goto (pc' := 32) rfl dX12_bounds_123 ?_
      exact ih h109 hS110 hF111 f114 f115 f116 (by rw [aG, if_pos c51, ← ul_ul B1 p (aG G H 1 p k)]; exact f119) (by rw [aG, if_pos c97, ← ul_ul B2 p (aG G H 2 p k)]; exact f113) f117 f118
theorem z_bi {xs : Nat → Int32} {L d : Nat} {h0 : ev_H} {th : Int32} {tr : Int64} {ty nx tk pl va fa ss wg : Int32} {c m : Nat} {l : Nat} {G : Nat → Int32} {H : Nat → Int64} {p : Nat} {B1 B2 S0 W0 : Nat → Int64} {Q : ev_Q} (hc : c ≤ 16) (hm : m ≤ 24) (hl : l < 256) (hH : HV c G H) (hp : p < 4) (kx : ∀ h' : ev_H, SH h' → KM [427, 428, 429, 430] h0 h' → h' 420 = .inr (12, [.int th, .long tr, .ref 421, .int ty, .int nx, .int tk, .int pl, .int va, .int fa, .int (nI c), .int (nI m), .int ss, .int wg, .ref 422, .ref 423, .ref 424, .ref 425, .ref 426, .ref 427, .ref 428, .ref 429, .ref 430, .ref 431, .ref 432, .ref 433]) → h' 422 = .inl (0, 240, .inl G) → h' 425 = .inl (1, 160, .inr (.inl H)) → h' 427 = .inl (1, 4, .inr (.inl (vp_updL B1 p (aG G H 1 p c)))) → h' 428 = .inl (1, 4, .inr (.inl (vp_updL B2 p (aG G H 2 p c)))) → h' 429 = .inl (1, 4, .inr (.inl S0)) → h' 430 = .inl (1, 4, .inr (.inl W0)) → EV xs L (d + 2) 0 0 M_X12_bounds 434 h' 126 [some (.ref 420), some (.int (nI l)), some (.int (nI p)), some (.int (nI c))] [] Q) : ∀ (nn k : Nat) (h : ev_H), k + nn = c → SH h → KM [427, 428, 429, 430] h0 h → h 420 = .inr (12, [.int th, .long tr, .ref 421, .int ty, .int nx, .int tk, .int pl, .int va, .int fa, .int (nI c), .int (nI m), .int ss, .int wg, .ref 422, .ref 423, .ref 424, .ref 425, .ref 426, .ref 427, .ref 428, .ref 429, .ref 430, .ref 431, .ref 432, .ref 433]) → h 422 = .inl (0, 240, .inl G) → h 425 = .inl (1, 160, .inr (.inl H)) → h 427 = .inl (1, 4, .inr (.inl (vp_updL B1 p (aG G H 1 p (k))))) → h 428 = .inl (1, 4, .inr (.inl (vp_updL B2 p (aG G H 2 p (k))))) → h 429 = .inl (1, 4, .inr (.inl S0)) → h 430 = .inl (1, 4, .inr (.inl W0)) → EV xs L (d + 2) 0 0 M_X12_bounds 434 h 32 [some (.ref 420), some (.int (nI l)), some (.int (nI p)), some (.int (nI k))] [] Q := by
  intro nn
  induction nn with
  | zero => intro k h hk hS hF h5 h22 h25 h27 h28 h29 h30; exact z_bi_z hS hc hm hl hH hp kx hF h5 h22 h25 h27 h28 h29 h30 (by omega)
  | succ nn ih => intro k h hk hS hF h5 h22 h25 h27 h28 h29 h30; exact z_bi_s hS hc hm hl hH hp kx hF h5 h22 h25 h27 h28 h29 h30 (by omega) (fun h' q0 q1 q2 q3 q4 q5 q6 q7 q8 => ih (k + 1) h' (by omega) q0 q1 q2 q3 q4 q5 q6 q7 q8)
theorem bk0 {Y : Nat → Int64} {V : Nat → Int64} {p : Nat} (h : p < 4) : bkR Y 0 V 4 p = V p := by
  have q := bkR_in (Y := Y) (e := 0) (V := V) h
  rw [show 4 * 0 + p = p by omega] at q
  exact q
set_option maxRecDepth 20000 in
set_option maxHeartbeats 1000000 in
theorem z_bf_z {xs : Nat → Int32} {L d : Nat} {h : ev_H} {h0 : ev_H} {th : Int32} {tr : Int64} {ty nx tk pl va fa ss wg : Int32} {c m : Nat} {l : Nat} {G : Nat → Int32} {H : Nat → Int64} {R1 R2 S1 W1 : Nat → Int64} {u3 : Option Value} {k : Nat} (hS : SH h) (hR : ∀ p, p < 4 → R1 p = wO (onP G 1 c) p ∧ R2 p = wO (onP G 2 c) p ∧ S1 p = wO (spP (onP G 1 c) l) p ∧ W1 p = wO (spP (onP G 2 c) l) p) (hF : KM [427, 428, 429, 430] h0 h) (h5 : h 420 = .inr (12, [.int th, .long tr, .ref 421, .int ty, .int nx, .int tk, .int pl, .int va, .int fa, .int (nI c), .int (nI m), .int ss, .int wg, .ref 422, .ref 423, .ref 424, .ref 425, .ref 426, .ref 427, .ref 428, .ref 429, .ref 430, .ref 431, .ref 432, .ref 433])) (h22 : h 422 = .inl (0, 240, .inl G)) (h25 : h 425 = .inl (1, 160, .inr (.inl H))) (h27 : h 427 = .inl (1, 4, .inr (.inl R1))) (h28 : h 428 = .inl (1, 4, .inr (.inl R2))) (h29 : h 429 = .inl (1, 4, .inr (.inl S1))) (h30 : h 430 = .inl (1, 4, .inr (.inl (bkR W1 0 (fun q => W1 q ^^^ (-1)) (k))))) (hk : k = 4) : EV xs L (d + 2) 0 0 M_X12_bounds 434 h 158 [some (.ref 420), some (.int (nI l)), some (.int (nI k)), u3] [] (fun sz' h' r => sz' = 434 ∧ SH h' ∧ KM [427, 428, 429, 430] h0 h' ∧ BR G c l h' ∧ r = []) := by
  refine r_iload_n rfl dX12_bounds_158 rfl ?_
  refine r_iconst (v := 4) rfl dX12_bounds_159 (by decide) ?_
  refine r_icmp_ge (tgt := 185) rfl rfl dX12_bounds_160 (fun _ => ?_) (fun zc => absurd (show nI (4) ≤ nI k from nI_le (a := 4) (b := k) (by omega) (by omega)) zc)
  subst hk
  exact r_ret dX12_bounds_185 (rt_v rfl) ⟨rfl, hS, hF, ⟨R1, R2, S1, _, h27, h28, h29, h30, fun p hp => ⟨(hR p hp).1, (hR p hp).2.1, (hR p hp).2.2.1, by rw [bk0 hp, (hR p hp).2.2.2, wO_not]⟩⟩, rfl⟩
set_option maxRecDepth 20000 in
set_option maxHeartbeats 1000000 in
theorem z_bf_s {xs : Nat → Int32} {L d : Nat} {h : ev_H} {h0 : ev_H} {th : Int32} {tr : Int64} {ty nx tk pl va fa ss wg : Int32} {c m : Nat} {l : Nat} {G : Nat → Int32} {H : Nat → Int64} {R1 R2 S1 W1 : Nat → Int64} {u3 : Option Value} {k : Nat} (hS : SH h) (hR : ∀ p, p < 4 → R1 p = wO (onP G 1 c) p ∧ R2 p = wO (onP G 2 c) p ∧ S1 p = wO (spP (onP G 1 c) l) p ∧ W1 p = wO (spP (onP G 2 c) l) p) (hF : KM [427, 428, 429, 430] h0 h) (h5 : h 420 = .inr (12, [.int th, .long tr, .ref 421, .int ty, .int nx, .int tk, .int pl, .int va, .int fa, .int (nI c), .int (nI m), .int ss, .int wg, .ref 422, .ref 423, .ref 424, .ref 425, .ref 426, .ref 427, .ref 428, .ref 429, .ref 430, .ref 431, .ref 432, .ref 433])) (h22 : h 422 = .inl (0, 240, .inl G)) (h25 : h 425 = .inl (1, 160, .inr (.inl H))) (h27 : h 427 = .inl (1, 4, .inr (.inl R1))) (h28 : h 428 = .inl (1, 4, .inr (.inl R2))) (h29 : h 429 = .inl (1, 4, .inr (.inl S1))) (h30 : h 430 = .inl (1, 4, .inr (.inl (bkR W1 0 (fun q => W1 q ^^^ (-1)) (k))))) (hk : k < 4) (ih : ∀ (h' : ev_H), SH h' → KM [427, 428, 429, 430] h0 h' → h' 420 = .inr (12, [.int th, .long tr, .ref 421, .int ty, .int nx, .int tk, .int pl, .int va, .int fa, .int (nI c), .int (nI m), .int ss, .int wg, .ref 422, .ref 423, .ref 424, .ref 425, .ref 426, .ref 427, .ref 428, .ref 429, .ref 430, .ref 431, .ref 432, .ref 433]) → h' 422 = .inl (0, 240, .inl G) → h' 425 = .inl (1, 160, .inr (.inl H)) → h' 427 = .inl (1, 4, .inr (.inl R1)) → h' 428 = .inl (1, 4, .inr (.inl R2)) → h' 429 = .inl (1, 4, .inr (.inl S1)) → h' 430 = .inl (1, 4, .inr (.inl (bkR W1 0 (fun q => W1 q ^^^ (-1)) (k + 1)))) → EV xs L (d + 2) 0 0 M_X12_bounds 434 h' 158 [some (.ref 420), some (.int (nI l)), some (.int (nI (k + 1))), u3] [] (fun sz' h' r => sz' = 434 ∧ SH h' ∧ KM [427, 428, 429, 430] h0 h' ∧ BR G c l h' ∧ r = [])) : EV xs L (d + 2) 0 0 M_X12_bounds 434 h 158 [some (.ref 420), some (.int (nI l)), some (.int (nI k)), u3] [] (fun sz' h' r => sz' = 434 ∧ SH h' ∧ KM [427, 428, 429, 430] h0 h' ∧ BR G c l h' ∧ r = []) := by
  refine r_iload_n rfl dX12_bounds_158 rfl ?_
  refine r_iconst (v := 4) rfl dX12_bounds_159 (by decide) ?_
  refine r_icmp_ge (tgt := 185) rfl rfl dX12_bounds_160 (fun zc => absurd zc (show ¬ nI (4) ≤ nI k from nI_ge (a := k) (b := 4) (by omega) (by omega))) (fun _ => ?_)
  refine r_aload_n rfl dX12_bounds_163 rfl ?_
  refine r_getv 21 rfl dX12_bounds_164 (show 2 ≤ 420 ∧ 420 < 434 by decide) h5 fl_X12_42 rfl ?_
  refine r_iload_n rfl dX12_bounds_167 rfl ?_
  refine r_aload_n rfl dX12_bounds_168 rfl ?_
  refine r_getv 21 rfl dX12_bounds_169 (show 2 ≤ 420 ∧ 420 < 434 by decide) h5 fl_X12_42 rfl ?_
  refine r_iload_n rfl dX12_bounds_172 rfl ?_
  refine r_laldv (jn := k) (v := W1 (k)) rfl dX12_bounds_173 (show 2 ≤ 430 ∧ 430 < 434 by decide) h30 (vp_in_nI (n := k) (by omega) (by decide)) (nI_clamp (n := k) (by omega)) (bkR_n (by omega)) ?_
  refine r_ldc2 (v := (-1)) rfl dX12_bounds_174 lc_X12_137 ?_
  refine r_lxor rfl dX12_bounds_177 ?_
  refine e_last (jn := k) rfl dX12_bounds_178 (show 2 ≤ 430 ∧ 430 < 434 by decide) hS hF (by decide) h30 (vp_in_nI (n := k) (by omega) (by decide)) (nI_clamp (n := k) (by omega)) (fun h51 hS52 hF53 hN54 f55 => ?_)
  have f56 : h51 420 = .inr (12, [.int th, .long tr, .ref 421, .int ty, .int nx, .int tk, .int pl, .int va, .int fa, .int (nI c), .int (nI m), .int ss, .int wg, .ref 422, .ref 423, .ref 424, .ref 425, .ref 426, .ref 427, .ref 428, .ref 429, .ref 430, .ref 431, .ref 432, .ref 433]) := (hN54 420 (by decide)).trans h5
  have f57 : h51 422 = .inl (0, 240, .inl G) := (hN54 422 (by decide)).trans h22
  have f58 : h51 425 = .inl (1, 160, .inr (.inl H)) := (hN54 425 (by decide)).trans h25
  have f59 : h51 427 = .inl (1, 4, .inr (.inl R1)) := (hN54 427 (by decide)).trans h27
  have f60 : h51 428 = .inl (1, 4, .inr (.inl R2)) := (hN54 428 (by decide)).trans h28
  have f61 : h51 429 = .inl (1, 4, .inr (.inl S1)) := (hN54 429 (by decide)).trans h29
  refine r_iinc (y := nI (k + 1)) (ls' := [some (.ref 420), some (.int (nI l)), some (.int (nI (k + 1))), u3]) rfl dX12_bounds_179 rfl (nI_1 k) (Nat.le_of_ble_eq_true rfl) rfl ?_
  refine r_goto (pc' := 158) rfl dX12_bounds_182 ?_
  exact ih h51 hS52 hF53 f56 f57 f58 f59 f60 f61 (by rw [← bkR_s, show 4 * 0 + k = k by omega]; exact f55)
theorem z_bf {xs : Nat → Int32} {L d : Nat} {h0 : ev_H} {th : Int32} {tr : Int64} {ty nx tk pl va fa ss wg : Int32} {c m : Nat} {l : Nat} {G : Nat → Int32} {H : Nat → Int64} {R1 R2 S1 W1 : Nat → Int64} {u3 : Option Value} (hR : ∀ p, p < 4 → R1 p = wO (onP G 1 c) p ∧ R2 p = wO (onP G 2 c) p ∧ S1 p = wO (spP (onP G 1 c) l) p ∧ W1 p = wO (spP (onP G 2 c) l) p) : ∀ (nn k : Nat) (h : ev_H), k + nn = 4 → SH h → KM [427, 428, 429, 430] h0 h → h 420 = .inr (12, [.int th, .long tr, .ref 421, .int ty, .int nx, .int tk, .int pl, .int va, .int fa, .int (nI c), .int (nI m), .int ss, .int wg, .ref 422, .ref 423, .ref 424, .ref 425, .ref 426, .ref 427, .ref 428, .ref 429, .ref 430, .ref 431, .ref 432, .ref 433]) → h 422 = .inl (0, 240, .inl G) → h 425 = .inl (1, 160, .inr (.inl H)) → h 427 = .inl (1, 4, .inr (.inl R1)) → h 428 = .inl (1, 4, .inr (.inl R2)) → h 429 = .inl (1, 4, .inr (.inl S1)) → h 430 = .inl (1, 4, .inr (.inl (bkR W1 0 (fun q => W1 q ^^^ (-1)) (k)))) → EV xs L (d + 2) 0 0 M_X12_bounds 434 h 158 [some (.ref 420), some (.int (nI l)), some (.int (nI k)), u3] [] (fun sz' h' r => sz' = 434 ∧ SH h' ∧ KM [427, 428, 429, 430] h0 h' ∧ BR G c l h' ∧ r = []) := by
  intro nn
  induction nn with
  | zero => intro k h hk hS hF h5 h22 h25 h27 h28 h29 h30; exact z_bf_z hS hR hF h5 h22 h25 h27 h28 h29 h30 (by omega)
  | succ nn ih => intro k h hk hS hF h5 h22 h25 h27 h28 h29 h30; exact z_bf_s hS hR hF h5 h22 h25 h27 h28 h29 h30 (by omega) (fun h' q0 q1 q2 q3 q4 q5 q6 q7 q8 => ih (k + 1) h' (by omega) q0 q1 q2 q3 q4 q5 q6 q7 q8)
theorem hw0 {Y : Nat → Int64} {P : Nat → Bool} {p : Nat} (h : p < 4) : hwR Y 0 P 256 p = wO P p := by
  have q := hwR_in (H := Y) (i := 0) (P := P) h
  rw [show 4 * 0 + p = p by omega] at q
  exact q
set_option maxRecDepth 20000 in
set_option maxHeartbeats 1000000 in
theorem z_bt {xs : Nat → Int32} {L d : Nat} {h : ev_H} {h0 : ev_H} {th : Int32} {tr : Int64} {ty nx tk pl va fa ss wg : Int32} {c m : Nat} {l : Nat} {G : Nat → Int32} {H : Nat → Int64} {R1 R2 S0 W0 : Nat → Int64} {u3 : Option Value} (hS : SH h) (hc : c ≤ 16) (hm : m ≤ 24) (hl : l < 256) (hH : HV c G H) (hF : KM [427, 428, 429, 430] h0 h) (hR1 : ∀ p, p < 4 → R1 p = wO (onP G 1 c) p) (hR2 : ∀ p, p < 4 → R2 p = wO (onP G 2 c) p) (h5 : h 420 = .inr (12, [.int th, .long tr, .ref 421, .int ty, .int nx, .int tk, .int pl, .int va, .int fa, .int (nI c), .int (nI m), .int ss, .int wg, .ref 422, .ref 423, .ref 424, .ref 425, .ref 426, .ref 427, .ref 428, .ref 429, .ref 430, .ref 431, .ref 432, .ref 433])) (h22 : h 422 = .inl (0, 240, .inl G)) (h25 : h 425 = .inl (1, 160, .inr (.inl H))) (h27 : h 427 = .inl (1, 4, .inr (.inl R1))) (h28 : h 428 = .inl (1, 4, .inr (.inl R2))) (h29 : h 429 = .inl (1, 4, .inr (.inl S0))) (h30 : h 430 = .inl (1, 4, .inr (.inl W0))) : EV xs L (d + 2) 0 0 M_X12_bounds 434 h 132 [some (.ref 420), some (.int (nI l)), some (.int (nI 4)), u3] [] (fun sz' h' r => sz' = 434 ∧ SH h' ∧ KM [427, 428, 429, 430] h0 h' ∧ BR G c l h' ∧ r = []) := by
  refine r_aload_n rfl dX12_bounds_132 rfl ?_
  refine r_getv 18 rfl dX12_bounds_133 (show 2 ≤ 420 ∧ 420 < 434 by decide) h5 fl_X12_33 rfl ?_
  refine r_aload_n rfl dX12_bounds_136 rfl ?_
  refine r_getv 20 rfl dX12_bounds_137 (show 2 ≤ 420 ∧ 420 < 434 by decide) h5 fl_X12_39 rfl ?_
  refine r_iload_n rfl dX12_bounds_140 rfl ?_
  refine cl_X12_139 rfl rfl dX12_bounds_141 (Nat.le_of_ble_eq_true rfl) (z_X12_spreads hS (by decide) (by decide) (by decide) hl hR1 h27 h29) ?_
  rintro _ h51 _ ⟨rfl, hS52, hk53, f54, rfl⟩
  have hF55 := KM_tr hF (KM_sb (by decide) hk53)
  have f56 : h51 420 = .inr (12, [.int th, .long tr, .ref 421, .int ty, .int nx, .int tk, .int pl, .int va, .int fa, .int (nI c), .int (nI m), .int ss, .int wg, .ref 422, .ref 423, .ref 424, .ref 425, .ref 426, .ref 427, .ref 428, .ref 429, .ref 430, .ref 431, .ref 432, .ref 433]) := (hk53 420 (by decide)).trans h5
  have f57 : h51 422 = .inl (0, 240, .inl G) := (hk53 422 (by decide)).trans h22
  have f58 : h51 425 = .inl (1, 160, .inr (.inl H)) := (hk53 425 (by decide)).trans h25
  have f59 : h51 427 = .inl (1, 4, .inr (.inl R1)) := (hk53 427 (by decide)).trans h27
  have f60 : h51 428 = .inl (1, 4, .inr (.inl R2)) := (hk53 428 (by decide)).trans h28
  have f61 : h51 430 = .inl (1, 4, .inr (.inl W0)) := (hk53 430 (by decide)).trans h30
  refine r_aload_n rfl dX12_bounds_144 rfl ?_
  refine r_getv 19 rfl dX12_bounds_145 (show 2 ≤ 420 ∧ 420 < 434 by decide) f56 fl_X12_36 rfl ?_
  refine r_aload_n rfl dX12_bounds_148 rfl ?_
  refine r_getv 21 rfl dX12_bounds_149 (show 2 ≤ 420 ∧ 420 < 434 by decide) f56 fl_X12_42 rfl ?_
  refine r_iload_n rfl dX12_bounds_152 rfl ?_
  refine cl_X12_139 rfl rfl dX12_bounds_153 (Nat.le_of_ble_eq_true rfl) (z_X12_spreads hS52 (by decide) (by decide) (by decide) hl hR2 f60 f61) ?_
  rintro _ h62 _ ⟨rfl, hS63, hk64, f65, rfl⟩
  have hF66 := KM_tr hF55 (KM_sb (by decide) hk64)
  have f67 : h62 420 = .inr (12, [.int th, .long tr, .ref 421, .int ty, .int nx, .int tk, .int pl, .int va, .int fa, .int (nI c), .int (nI m), .int ss, .int wg, .ref 422, .ref 423, .ref 424, .ref 425, .ref 426, .ref 427, .ref 428, .ref 429, .ref 430, .ref 431, .ref 432, .ref 433]) := (hk64 420 (by decide)).trans f56
  have f68 : h62 422 = .inl (0, 240, .inl G) := (hk64 422 (by decide)).trans f57
  have f69 : h62 425 = .inl (1, 160, .inr (.inl H)) := (hk64 425 (by decide)).trans f58
  have f70 : h62 427 = .inl (1, 4, .inr (.inl R1)) := (hk64 427 (by decide)).trans f59
  have f71 : h62 428 = .inl (1, 4, .inr (.inl R2)) := (hk64 428 (by decide)).trans f60
  have f72 : h62 429 = .inl (1, 4, .inr (.inl (hwR S0 0 (fun w => ksB (onP G 1 c) l 256 (w &&& l)) 256))) := (hk64 429 (by decide)).trans f54
  refine r_iconst (v := 0) rfl dX12_bounds_156 (by decide) ?_
  refine r_istore_n (ls' := [some (.ref 420), some (.int (nI l)), some (.int 0), u3]) rfl dX12_bounds_157 (Nat.le_of_ble_eq_true rfl) rfl ?_
  exact z_bf (fun p hp => ⟨hR1 p hp, hR2 p hp, hw0 hp, hw0 hp⟩) 4 0 h62 rfl hS63 hF66 f67 f68 f69 f70 f71 f72 (by rw [bkR_0]; exact f65)
set_option maxRecDepth 20000 in
set_option maxHeartbeats 1000000 in
theorem z_bo_z {xs : Nat → Int32} {L d : Nat} {h : ev_H} {h0 : ev_H} {th : Int32} {tr : Int64} {ty nx tk pl va fa ss wg : Int32} {c m : Nat} {l : Nat} {G : Nat → Int32} {H : Nat → Int64} {A1 A2 S0 W0 : Nat → Int64} {k : Nat} {u3 : Option Value} (hS : SH h) (hc : c ≤ 16) (hm : m ≤ 24) (hl : l < 256) (hH : HV c G H) (hF : KM [427, 428, 429, 430] h0 h) (h5 : h 420 = .inr (12, [.int th, .long tr, .ref 421, .int ty, .int nx, .int tk, .int pl, .int va, .int fa, .int (nI c), .int (nI m), .int ss, .int wg, .ref 422, .ref 423, .ref 424, .ref 425, .ref 426, .ref 427, .ref 428, .ref 429, .ref 430, .ref 431, .ref 432, .ref 433])) (h22 : h 422 = .inl (0, 240, .inl G)) (h25 : h 425 = .inl (1, 160, .inr (.inl H))) (h27 : h 427 = .inl (1, 4, .inr (.inl (bkR A1 0 (fun q => aG G H 1 q c) (k))))) (h28 : h 428 = .inl (1, 4, .inr (.inl (bkR A2 0 (fun q => aG G H 2 q c) (k))))) (h29 : h 429 = .inl (1, 4, .inr (.inl S0))) (h30 : h 430 = .inl (1, 4, .inr (.inl W0))) (hk : k = 4) : EV xs L (d + 2) 0 0 M_X12_bounds 434 h 7 [some (.ref 420), some (.int (nI l)), some (.int (nI k)), u3] [] (fun sz' h' r => sz' = 434 ∧ SH h' ∧ KM [427, 428, 429, 430] h0 h' ∧ BR G c l h' ∧ r = []) := by
  refine r_iload_n rfl dX12_bounds_7 rfl ?_
  refine r_iconst (v := 4) rfl dX12_bounds_8 (by decide) ?_
  refine r_icmp_ge (tgt := 132) rfl rfl dX12_bounds_9 (fun _ => ?_) (fun zc => absurd (show nI (4) ≤ nI k from nI_le (a := 4) (b := k) (by omega) (by omega)) zc)
  subst hk
  exact z_bt hS hc hm hl hH hF (fun p hp => by rw [bk0 hp]; exact aG_wO hp c hH) (fun p hp => by rw [bk0 hp]; exact aG_wO hp c hH) h5 h22 h25 h27 h28 h29 h30
set_option maxRecDepth 20000 in
set_option maxHeartbeats 1000000 in
theorem z_bo_s {xs : Nat → Int32} {L d : Nat} {h : ev_H} {h0 : ev_H} {th : Int32} {tr : Int64} {ty nx tk pl va fa ss wg : Int32} {c m : Nat} {l : Nat} {G : Nat → Int32} {H : Nat → Int64} {A1 A2 S0 W0 : Nat → Int64} {k : Nat} {u3 : Option Value} (hS : SH h) (hc : c ≤ 16) (hm : m ≤ 24) (hl : l < 256) (hH : HV c G H) (hF : KM [427, 428, 429, 430] h0 h) (h5 : h 420 = .inr (12, [.int th, .long tr, .ref 421, .int ty, .int nx, .int tk, .int pl, .int va, .int fa, .int (nI c), .int (nI m), .int ss, .int wg, .ref 422, .ref 423, .ref 424, .ref 425, .ref 426, .ref 427, .ref 428, .ref 429, .ref 430, .ref 431, .ref 432, .ref 433])) (h22 : h 422 = .inl (0, 240, .inl G)) (h25 : h 425 = .inl (1, 160, .inr (.inl H))) (h27 : h 427 = .inl (1, 4, .inr (.inl (bkR A1 0 (fun q => aG G H 1 q c) (k))))) (h28 : h 428 = .inl (1, 4, .inr (.inl (bkR A2 0 (fun q => aG G H 2 q c) (k))))) (h29 : h 429 = .inl (1, 4, .inr (.inl S0))) (h30 : h 430 = .inl (1, 4, .inr (.inl W0))) (hk : k < 4) (ih : ∀ (h' : ev_H) (u3' : Option Value), SH h' → KM [427, 428, 429, 430] h0 h' → h' 420 = .inr (12, [.int th, .long tr, .ref 421, .int ty, .int nx, .int tk, .int pl, .int va, .int fa, .int (nI c), .int (nI m), .int ss, .int wg, .ref 422, .ref 423, .ref 424, .ref 425, .ref 426, .ref 427, .ref 428, .ref 429, .ref 430, .ref 431, .ref 432, .ref 433]) → h' 422 = .inl (0, 240, .inl G) → h' 425 = .inl (1, 160, .inr (.inl H)) → h' 427 = .inl (1, 4, .inr (.inl (bkR A1 0 (fun q => aG G H 1 q c) (k + 1)))) → h' 428 = .inl (1, 4, .inr (.inl (bkR A2 0 (fun q => aG G H 2 q c) (k + 1)))) → h' 429 = .inl (1, 4, .inr (.inl S0)) → h' 430 = .inl (1, 4, .inr (.inl W0)) → EV xs L (d + 2) 0 0 M_X12_bounds 434 h' 7 [some (.ref 420), some (.int (nI l)), some (.int (nI (k + 1))), u3'] [] (fun sz' h' r => sz' = 434 ∧ SH h' ∧ KM [427, 428, 429, 430] h0 h' ∧ BR G c l h' ∧ r = [])) : EV xs L (d + 2) 0 0 M_X12_bounds 434 h 7 [some (.ref 420), some (.int (nI l)), some (.int (nI k)), u3] [] (fun sz' h' r => sz' = 434 ∧ SH h' ∧ KM [427, 428, 429, 430] h0 h' ∧ BR G c l h' ∧ r = []) := by
  refine r_iload_n rfl dX12_bounds_7 rfl ?_
  refine r_iconst (v := 4) rfl dX12_bounds_8 (by decide) ?_
  refine r_icmp_ge (tgt := 132) rfl rfl dX12_bounds_9 (fun zc => absurd zc (show ¬ nI (4) ≤ nI k from nI_ge (a := k) (b := 4) (by omega) (by omega))) (fun _ => ?_)
  refine r_aload_n rfl dX12_bounds_12 rfl ?_
  refine r_getv 18 rfl dX12_bounds_13 (show 2 ≤ 420 ∧ 420 < 434 by decide) h5 fl_X12_33 rfl ?_
  refine r_iload_n rfl dX12_bounds_16 rfl ?_
  refine r_ldc2 (v := (-1)) rfl dX12_bounds_17 lc_X12_137 ?_
  refine e_last (jn := k) rfl dX12_bounds_20 (show 2 ≤ 427 ∧ 427 < 434 by decide) hS hF (by decide) h27 (vp_in_nI (n := k) (by omega) (by decide)) (nI_clamp (n := k) (by omega)) (fun h51 hS52 hF53 hN54 f55 => ?_)
  have f56 : h51 420 = .inr (12, [.int th, .long tr, .ref 421, .int ty, .int nx, .int tk, .int pl, .int va, .int fa, .int (nI c), .int (nI m), .int ss, .int wg, .ref 422, .ref 423, .ref 424, .ref 425, .ref 426, .ref 427, .ref 428, .ref 429, .ref 430, .ref 431, .ref 432, .ref 433]) := (hN54 420 (by decide)).trans h5
  have f57 : h51 422 = .inl (0, 240, .inl G) := (hN54 422 (by decide)).trans h22
  have f58 : h51 425 = .inl (1, 160, .inr (.inl H)) := (hN54 425 (by decide)).trans h25
  have f59 : h51 428 = .inl (1, 4, .inr (.inl (bkR A2 0 (fun q => aG G H 2 q c) (k)))) := (hN54 428 (by decide)).trans h28
  have f60 : h51 429 = .inl (1, 4, .inr (.inl S0)) := (hN54 429 (by decide)).trans h29
  have f61 : h51 430 = .inl (1, 4, .inr (.inl W0)) := (hN54 430 (by decide)).trans h30
  refine r_aload_n rfl dX12_bounds_21 rfl ?_
  refine r_getv 19 rfl dX12_bounds_22 (show 2 ≤ 420 ∧ 420 < 434 by decide) f56 fl_X12_36 rfl ?_
  refine r_iload_n rfl dX12_bounds_25 rfl ?_
  refine r_ldc2 (v := (-1)) rfl dX12_bounds_26 lc_X12_137 ?_
  refine e_last (jn := k) rfl dX12_bounds_29 (show 2 ≤ 428 ∧ 428 < 434 by decide) hS52 hF53 (by decide) f59 (vp_in_nI (n := k) (by omega) (by decide)) (nI_clamp (n := k) (by omega)) (fun h62 hS63 hF64 hN65 f66 => ?_)
  have f67 : h62 420 = .inr (12, [.int th, .long tr, .ref 421, .int ty, .int nx, .int tk, .int pl, .int va, .int fa, .int (nI c), .int (nI m), .int ss, .int wg, .ref 422, .ref 423, .ref 424, .ref 425, .ref 426, .ref 427, .ref 428, .ref 429, .ref 430, .ref 431, .ref 432, .ref 433]) := (hN65 420 (by decide)).trans f56
  have f68 : h62 422 = .inl (0, 240, .inl G) := (hN65 422 (by decide)).trans f57
  have f69 : h62 425 = .inl (1, 160, .inr (.inl H)) := (hN65 425 (by decide)).trans f58
  have f70 : h62 429 = .inl (1, 4, .inr (.inl S0)) := (hN65 429 (by decide)).trans f60
  have f71 : h62 430 = .inl (1, 4, .inr (.inl W0)) := (hN65 430 (by decide)).trans f61
  have f72 : h62 427 = .inl (1, 4, .inr (.inl (vp_updL (bkR A1 0 (fun q => aG G H 1 q c) (k)) k (-1)))) := (hN65 427 (by decide)).trans f55
  refine r_iconst (v := 0) rfl dX12_bounds_30 (by decide) ?_
  refine r_istore_n (ls' := [some (.ref 420), some (.int (nI l)), some (.int (nI k)), some (.int 0)]) rfl dX12_bounds_31 (Nat.le_of_ble_eq_true rfl) rfl ?_
  refine z_bi (p := k) (B1 := bkR A1 0 (fun q => aG G H 1 q c) (k)) (B2 := bkR A2 0 (fun q => aG G H 2 q c) (k)) (h0 := h62) hc hm hl hH (by omega) ?_ c 0 h62 (by omega) hS63 (KM_rf _) f67 f68 f69 f72 f66 f70 f71
  intro h73 hS74 hF75 f76 f77 f78 f79 f80 f81 f82
  have hF83 := KM_tr hF64 (KM_sb (by decide) hF75)
  refine r_iinc (y := nI (k + 1)) (ls' := [some (.ref 420), some (.int (nI l)), some (.int (nI (k + 1))), some (.int (nI c))]) rfl dX12_bounds_126 rfl (nI_1 k) (Nat.le_of_ble_eq_true rfl) rfl ?_
  refine r_goto (pc' := 7) rfl dX12_bounds_129 ?_
  exact ih h73 _ hS74 hF83 f76 f77 f78 (by rw [← bkR_s, show 4 * 0 + k = k by omega]; exact f79) (by rw [← bkR_s, show 4 * 0 + k = k by omega]; exact f80) f81 f82
theorem z_bo {xs : Nat → Int32} {L d : Nat} {h0 : ev_H} {th : Int32} {tr : Int64} {ty nx tk pl va fa ss wg : Int32} {c m : Nat} {l : Nat} {G : Nat → Int32} {H : Nat → Int64} {A1 A2 S0 W0 : Nat → Int64} (hc : c ≤ 16) (hm : m ≤ 24) (hl : l < 256) (hH : HV c G H) : ∀ (nn k : Nat) (h : ev_H) (u3 : Option Value), k + nn = 4 → SH h → KM [427, 428, 429, 430] h0 h → h 420 = .inr (12, [.int th, .long tr, .ref 421, .int ty, .int nx, .int tk, .int pl, .int va, .int fa, .int (nI c), .int (nI m), .int ss, .int wg, .ref 422, .ref 423, .ref 424, .ref 425, .ref 426, .ref 427, .ref 428, .ref 429, .ref 430, .ref 431, .ref 432, .ref 433]) → h 422 = .inl (0, 240, .inl G) → h 425 = .inl (1, 160, .inr (.inl H)) → h 427 = .inl (1, 4, .inr (.inl (bkR A1 0 (fun q => aG G H 1 q c) (k)))) → h 428 = .inl (1, 4, .inr (.inl (bkR A2 0 (fun q => aG G H 2 q c) (k)))) → h 429 = .inl (1, 4, .inr (.inl S0)) → h 430 = .inl (1, 4, .inr (.inl W0)) → EV xs L (d + 2) 0 0 M_X12_bounds 434 h 7 [some (.ref 420), some (.int (nI l)), some (.int (nI k)), u3] [] (fun sz' h' r => sz' = 434 ∧ SH h' ∧ KM [427, 428, 429, 430] h0 h' ∧ BR G c l h' ∧ r = []) := by
  intro nn
  induction nn with
  | zero => intro k h u3 hk hS hF h5 h22 h25 h27 h28 h29 h30; exact z_bo_z hS hc hm hl hH hF h5 h22 h25 h27 h28 h29 h30 (by omega)
  | succ nn ih => intro k h u3 hk hS hF h5 h22 h25 h27 h28 h29 h30; exact z_bo_s hS hc hm hl hH hF h5 h22 h25 h27 h28 h29 h30 (by omega) (fun h' u3 q0 q1 q2 q3 q4 q5 q6 q7 q8 => ih (k + 1) h' u3 (by omega) q0 q1 q2 q3 q4 q5 q6 q7 q8)
set_option maxRecDepth 20000 in
set_option maxHeartbeats 1000000 in
theorem z_X12_bounds {xs : Nat → Int32} {L d : Nat} {h : ev_H} {th : Int32} {tr : Int64} {ty nx tk pl va fa ss wg : Int32} {c m : Nat} {l : Nat} {G : Nat → Int32} {H : Nat → Int64} {A1 A2 S0 W0 : Nat → Int64} (hS : SH h) (hc : c ≤ 16) (hm : m ≤ 24) (hl : l < 256) (hH : HV c G H) (hsl : shM G c = nI l) (h5 : h 420 = .inr (12, [.int th, .long tr, .ref 421, .int ty, .int nx, .int tk, .int pl, .int va, .int fa, .int (nI c), .int (nI m), .int ss, .int wg, .ref 422, .ref 423, .ref 424, .ref 425, .ref 426, .ref 427, .ref 428, .ref 429, .ref 430, .ref 431, .ref 432, .ref 433])) (h22 : h 422 = .inl (0, 240, .inl G)) (h25 : h 425 = .inl (1, 160, .inr (.inl H))) (h27 : h 427 = .inl (1, 4, .inr (.inl A1))) (h28 : h 428 = .inl (1, 4, .inr (.inl A2))) (h29 : h 429 = .inl (1, 4, .inr (.inl S0))) (h30 : h 430 = .inl (1, 4, .inr (.inl W0))) : EV xs L (d + 2) 0 0 M_X12_bounds 434 h 0 [some (.ref 420), none, none, none] [] (fun sz' h' r => sz' = 434 ∧ SH h' ∧ KM [427, 428, 429, 430] h h' ∧ BR G c l h' ∧ r = []) := by
  refine r_aload_n rfl dX12_bounds_0 rfl ?_
  refine cl_X12_133 rfl rfl dX12_bounds_1 (show 2 ≤ 420 ∧ 420 < 434 by decide).1 (show 2 ≤ 420 ∧ 420 < 434 by decide).2 h5 (Nat.le_of_ble_eq_true rfl) (z_X12_shared hS h5 hc hm h22) ?_
  rintro _ h51 _ ⟨rfl, e52, rfl⟩
  replace e52 := e52.symm
  subst e52
  refine r_eqi (y := nI l) hsl ?_
  refine r_istore_n (ls' := [some (.ref 420), some (.int (nI l)), none, none]) rfl dX12_bounds_4 (Nat.le_of_ble_eq_true rfl) rfl ?_
  refine r_iconst (v := 0) rfl dX12_bounds_5 (by decide) ?_
  refine r_istore_n (ls' := [some (.ref 420), some (.int (nI l)), some (.int 0), none]) rfl dX12_bounds_6 (Nat.le_of_ble_eq_true rfl) rfl ?_
  exact z_bo hc hm hl hH 4 0 h _ rfl hS (KM_rf (Mod := [427, 428, 429, 430]) h) h5 h22 h25 (by rw [bkR_0]; exact h27) (by rw [bkR_0]; exact h28) h29 h30
