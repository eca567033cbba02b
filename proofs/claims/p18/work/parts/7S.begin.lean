/-- LETTERS that both sides have -/
def shM (G : Nat → Int32) (c : Nat) : Int32 := ltM G 1 c &&& ltM G 2 c
set_option maxRecDepth 20000 in
set_option maxHeartbeats 1000000 in
theorem z_X12_shared {xs : Nat → Int32} {L d : Nat} {h : ev_H} {th : Int32} {tr : Int64} {ty nx tk pl va fa ss wg : Int32} {c m : Nat} {G : Nat → Int32} (hS : SH h) (h5 : h 420 = c420 th tr ty nx tk pl va fa (nI c) (nI m) ss wg) (hc : c ≤ 16) (hm : m ≤ 24) (h22 : h 422 = cI 240 G) : EV xs L (d + 1) 0 0 M_X12_shared 434 h 0 [some (.ref 420)] [] (fun sz' h' r => sz' = 434 ∧ h' = h ∧ r = [.int (shM G c)]) := by
  refine r_aload_n rfl dX12_shared_0 rfl ?_
  refine r_iconst (v := 1) rfl dX12_shared_1 (by decide) ?_
  refine cl_X12_130 rfl rfl dX12_shared_2 (show 2 ≤ 420 ∧ 420 < 434 by decide).1 (show 2 ≤ 420 ∧ 420 < 434 by decide).2 h5 (Nat.le_of_ble_eq_true rfl) (y_X12_lettersOf hS h5 hc hm h22) ?_
  rintro _ h51 _ ⟨rfl, e52, rfl⟩
  replace e52 := e52.symm
  subst e52
  refine r_aload_n rfl dX12_shared_5 rfl ?_
  refine r_iconst (v := 2) rfl dX12_shared_6 (by decide) ?_
  refine cl_X12_130 rfl rfl dX12_shared_7 (show 2 ≤ 420 ∧ 420 < 434 by decide).1 (show 2 ≤ 420 ∧ 420 < 434 by decide).2 h5 (Nat.le_of_ble_eq_true rfl) (y_X12_lettersOf hS h5 hc hm h22) ?_
  rintro _ h53 _ ⟨rfl, e54, rfl⟩
  replace e54 := e54.symm
  subst e54
  refine r_iand rfl dX12_shared_10 ?_
  exact r_ret dX12_shared_11 (rt_i rfl) ⟨rfl, rfl, rfl⟩
/-- k parts of block e told anew -/
def bkR (Y : Nat → Int64) (e : Nat) (V : Nat → Int64) (k : Nat) : Nat → Int64 := fun q => if 4 * e ≤ q ∧ q < 4 * e + k then V (q - 4 * e) else Y q
theorem bkR_0 (Y : Nat → Int64) (e : Nat) (V : Nat → Int64) : bkR Y e V 0 = Y := funext (fun q => if_neg (by omega))
theorem bkR_s (Y : Nat → Int64) (e : Nat) (V : Nat → Int64) (k : Nat) : vp_updL (bkR Y e V k) (4 * e + k) (V k) = bkR Y e V (k + 1) := funext (fun q => by
  by_cases c0 : q = 4 * e + k
  · subst c0; rw [ul_s, bkR, if_pos (by omega), show 4 * e + k - 4 * e = k by omega]
  · rw [ul_n c0, bkR, bkR]
    by_cases c : 4 * e ≤ q ∧ q < 4 * e + k
    · rw [if_pos c, if_pos (by omega)]
    · rw [if_neg c, if_neg (by omega)])
theorem bkR_in {Y : Nat → Int64} {e : Nat} {V : Nat → Int64} {p : Nat} (h : p < 4) : bkR Y e V 4 (4 * e + p) = V p := by
  rw [bkR, if_pos (by omega), show 4 * e + p - 4 * e = p by omega]
theorem bkR_lo {Y : Nat → Int64} {e : Nat} {V : Nat → Int64} {q : Nat} (h : ¬ (4 * e ≤ q ∧ q < 4 * e + 4)) : bkR Y e V 4 q = Y q := if_neg h
theorem hzR_bk (Y : Nat → Int64) (e k : Nat) : hzR Y e k = bkR Y e (fun _ => 0) k := rfl
theorem hwR_bk (Y : Nat → Int64) (e : Nat) (P : Nat → Bool) : hwR Y e P 256 = bkR Y e (wO P) 4 := funext (fun q => by
  unfold bkR
  by_cases c : 4 * e ≤ q ∧ q < 4 * e + 4
  · obtain ⟨p, hp, rfl⟩ : ∃ p, p < 4 ∧ q = 4 * e + p := ⟨q - 4 * e, by omega, by omega⟩
    rw [if_pos c, hwR_in hp, show 4 * e + p - 4 * e = p by omega]
  · rw [if_neg c, hwR_lo c])
theorem ul_id (f : Nat → Int64) (i : Nat) : vp_updL f i (f i) = f := funext (fun q => by
  by_cases c : q = i
  · subst c; rw [ul_s]
  · rw [ul_n c])
theorem hwR_f (H : Nat → Int64) (i : Nat) (P : Nat → Bool) {w : Nat} (hw : w < 256) (hp : ¬ P w = true) : hwR H i P w = hwR H i P (w + 1) := by
  have h := hwR_s H i P hw
  rw [if_neg hp, Int64.or_zero, ul_id] at h
  exact h
/-- worlds 0 .. w - 1 taken out -/
def hnR (H : Nat → Int64) (i : Nat) (P : Nat → Bool) (w : Nat) : Nat → Int64 := fun q => if 4 * i ≤ q ∧ q < 4 * i + 4 then hwR H i P w q ^^^ (-1) else H q
theorem hnR_0 (H : Nat → Int64) (i : Nat) (P : Nat → Bool) : bkR H i (fun _ => -1) 4 = hnR H i P 0 := funext (fun q => by
  unfold bkR hnR
  by_cases c : 4 * i ≤ q ∧ q < 4 * i + 4
  · rw [if_pos c, if_pos c, ← hwR_0, hzR, if_pos c]; rfl
  · rw [if_neg c, if_neg c])
theorem hnR_f (H : Nat → Int64) (i : Nat) (P : Nat → Bool) {w : Nat} (hw : w < 256) (hp : ¬ P w = true) : hnR H i P w = hnR H i P (w + 1) := funext (fun q => by unfold hnR; rw [hwR_f H i P hw hp])
theorem not_or64 (x y : Int64) : (x ^^^ (-1)) &&& (y ^^^ (-1)) = (x ||| y) ^^^ (-1) := tb_ext (fun j hj => by
  rw [tb_and, tb_not hj, tb_not hj, tb_not hj, tb_or]; cases tb x j <;> cases tb y j <;> rfl)
theorem hnR_t (H : Nat → Int64) (i : Nat) (P : Nat → Bool) {w : Nat} (hw : w < 256) (hp : P w = true) : vp_updL (hnR H i P w) (4 * i + w / 64) (hnR H i P w (4 * i + w / 64) &&& ((1 <<< ((nI (w % 64) : Int32).toInt64 &&& 63)) ^^^ (-1))) = hnR H i P (w + 1) := funext (fun q => by
  have h := congrFun (hwR_s H i P hw) q
  rw [if_pos hp] at h
  by_cases e : q = 4 * i + w / 64
  · subst e
    rw [ul_s] at h ⊢
    rw [hnR, hnR, if_pos (show 4 * i ≤ 4 * i + w / 64 ∧ 4 * i + w / 64 < 4 * i + 4 by omega), if_pos (show 4 * i ≤ 4 * i + w / 64 ∧ 4 * i + w / 64 < 4 * i + 4 by omega), ← h, not_or64]
  · rw [ul_n e] at h ⊢
    rw [hnR, hnR, h])
theorem hnR_bk (Y : Nat → Int64) (e : Nat) (P : Nat → Bool) : hnR Y e P 256 = bkR Y e (fun p => wO P p ^^^ (-1)) 4 := funext (fun q => by
  unfold bkR hnR
  by_cases c : 4 * e ≤ q ∧ q < 4 * e + 4
  · obtain ⟨p, hp, rfl⟩ : ∃ p, p < 4 ∧ q = 4 * e + p := ⟨q - 4 * e, by omega, by omega⟩
    rw [if_pos c, if_pos c, hwR_in hp, show 4 * e + p - 4 * e = p by omega]
  · rw [if_neg c, if_neg c])
set_option maxRecDepth 20000 in
set_option maxHeartbeats 1000000 in
theorem z_bp1_z {xs : Nat → Int32} {L d : Nat} {h : ev_H} {h0 : ev_H} {th : Int32} {tr : Int64} {ty nx tk pl va fa ss wg : Int32} {c m : Nat} {i e : Nat} {le no : Int32} {G : Nat → Int32} {Y : Nat → Int64} {Q : ev_Q} {y : Nat} {u : Option Value} {k : Nat} (hS : SH h) (he : e < 120) (kx : ∀ h' : ev_H, SH h' → KM [426] h0 h' → h' 420 = .inr (12, [.int th, .long tr, .ref 421, .int ty, .int nx, .int tk, .int pl, .int va, .int fa, .int (nI c), .int (nI m), .int ss, .int wg, .ref 422, .ref 423, .ref 424, .ref 425, .ref 426, .ref 427, .ref 428, .ref 429, .ref 430, .ref 431, .ref 432, .ref 433]) → h' 422 = .inl (0, 240, .inl G) → h' 426 = .inl (1, 480, .inr (.inl (bkR Y e (fun _ => 0) 4))) → EV xs L (d + 2) 0 0 M_X12_beginning 434 h' 112 [some (.ref 420), some (.int (nI i)), some (.int le), some (.int no), some (.int 1), some (.int (nI y)), some (.int (nI (4 * e))), some (.int (nI 4)), u, none] [] Q) (hF : KM [426] h0 h) (h5 : h 420 = .inr (12, [.int th, .long tr, .ref 421, .int ty, .int nx, .int tk, .int pl, .int va, .int fa, .int (nI c), .int (nI m), .int ss, .int wg, .ref 422, .ref 423, .ref 424, .ref 425, .ref 426, .ref 427, .ref 428, .ref 429, .ref 430, .ref 431, .ref 432, .ref 433])) (h22 : h 422 = .inl (0, 240, .inl G)) (h26 : h 426 = .inl (1, 480, .inr (.inl (bkR Y e (fun _ => 0) (k))))) (hk : k = 4) : EV xs L (d + 2) 0 0 M_X12_beginning 434 h 78 [some (.ref 420), some (.int (nI i)), some (.int le), some (.int no), some (.int 1), some (.int (nI y)), some (.int (nI (4 * e))), some (.int (nI k)), u, none] [] Q := by
  refine r_iload rfl dX12_beginning_78 rfl ?_
  refine r_iconst (v := 4) rfl dX12_beginning_80 (by decide) ?_
  refine r_icmp_ge (tgt := 112) rfl rfl dX12_beginning_81 (fun _ => ?_) (fun zc => absurd (show nI (4) ≤ nI k from nI_le (a := 4) (b := k) (by omega) (by omega)) zc)
  subst hk
  exact kx h hS hF h5 h22 h26
set_option maxRecDepth 20000 in
set_option maxHeartbeats 1000000 in
theorem z_bp1_s {xs : Nat → Int32} {L d : Nat} {h : ev_H} {h0 : ev_H} {th : Int32} {tr : Int64} {ty nx tk pl va fa ss wg : Int32} {c m : Nat} {i e : Nat} {le no : Int32} {G : Nat → Int32} {Y : Nat → Int64} {Q : ev_Q} {y : Nat} {u : Option Value} {k : Nat} (hS : SH h) (he : e < 120) (kx : ∀ h' : ev_H, SH h' → KM [426] h0 h' → h' 420 = .inr (12, [.int th, .long tr, .ref 421, .int ty, .int nx, .int tk, .int pl, .int va, .int fa, .int (nI c), .int (nI m), .int ss, .int wg, .ref 422, .ref 423, .ref 424, .ref 425, .ref 426, .ref 427, .ref 428, .ref 429, .ref 430, .ref 431, .ref 432, .ref 433]) → h' 422 = .inl (0, 240, .inl G) → h' 426 = .inl (1, 480, .inr (.inl (bkR Y e (fun _ => 0) 4))) → EV xs L (d + 2) 0 0 M_X12_beginning 434 h' 112 [some (.ref 420), some (.int (nI i)), some (.int le), some (.int no), some (.int 1), some (.int (nI y)), some (.int (nI (4 * e))), some (.int (nI 4)), u, none] [] Q) (hF : KM [426] h0 h) (h5 : h 420 = .inr (12, [.int th, .long tr, .ref 421, .int ty, .int nx, .int tk, .int pl, .int va, .int fa, .int (nI c), .int (nI m), .int ss, .int wg, .ref 422, .ref 423, .ref 424, .ref 425, .ref 426, .ref 427, .ref 428, .ref 429, .ref 430, .ref 431, .ref 432, .ref 433])) (h22 : h 422 = .inl (0, 240, .inl G)) (h26 : h 426 = .inl (1, 480, .inr (.inl (bkR Y e (fun _ => 0) (k))))) (hk : k < 4) (ih : ∀ (h' : ev_H), SH h' → KM [426] h0 h' → h' 420 = .inr (12, [.int th, .long tr, .ref 421, .int ty, .int nx, .int tk, .int pl, .int va, .int fa, .int (nI c), .int (nI m), .int ss, .int wg, .ref 422, .ref 423, .ref 424, .ref 425, .ref 426, .ref 427, .ref 428, .ref 429, .ref 430, .ref 431, .ref 432, .ref 433]) → h' 422 = .inl (0, 240, .inl G) → h' 426 = .inl (1, 480, .inr (.inl (bkR Y e (fun _ => 0) (k + 1)))) → EV xs L (d + 2) 0 0 M_X12_beginning 434 h' 78 [some (.ref 420), some (.int (nI i)), some (.int le), some (.int no), some (.int 1), some (.int (nI y)), some (.int (nI (4 * e))), some (.int (nI (k + 1))), u, none] [] Q) : EV xs L (d + 2) 0 0 M_X12_beginning 434 h 78 [some (.ref 420), some (.int (nI i)), some (.int le), some (.int no), some (.int 1), some (.int (nI y)), some (.int (nI (4 * e))), some (.int (nI k)), u, none] [] Q := by
  refine r_iload rfl dX12_beginning_78 rfl ?_
  refine r_iconst (v := 4) rfl dX12_beginning_80 (by decide) ?_
  refine r_icmp_ge (tgt := 112) rfl rfl dX12_beginning_81 (fun zc => absurd zc (show ¬ nI (4) ≤ nI k from nI_ge (a := k) (b := 4) (by omega) (by omega))) (fun _ => ?_)
  refine r_aload_n rfl dX12_beginning_84 rfl ?_
  refine r_getv 17 rfl dX12_beginning_85 (show 2 ≤ 420 ∧ 420 < 434 by decide) h5 fl_X12_30 rfl ?_
  refine r_iload rfl dX12_beginning_88 rfl ?_
  refine r_iload rfl dX12_beginning_90 rfl ?_
  refine r_iadd rfl dX12_beginning_92 ?_
  refine r_eqi (y := nI ((4 * e) + k)) (show (nI (4 * e)) + (nI k) = nI ((4 * e) + k) from nI_add (4 * e) k) ?_
  refine r_iload rfl dX12_beginning_93 rfl ?_
  refine r_if_eq (tgt := 102) rfl rfl dX12_beginning_95 (fun zc => absurd zc (by decide)) (fun _ => ?_)
  refine r_lconst (v := 0) rfl dX12_beginning_98 (by decide) ?_
  refine r_goto (pc' := 105) rfl dX12_beginning_99 ?_
  refine e_last (jn := (4 * e) + k) rfl dX12_beginning_105 (show 2 ≤ 426 ∧ 426 < 434 by decide) hS hF (by decide) h26 (vp_in_nI (n := (4 * e) + k) (by omega) (by decide)) (nI_clamp (n := (4 * e) + k) (by omega)) (fun h51 hS52 hF53 hN54 f55 => ?_)
  have f56 : h51 420 = .inr (12, [.int th, .long tr, .ref 421, .int ty, .int nx, .int tk, .int pl, .int va, .int fa, .int (nI c), .int (nI m), .int ss, .int wg, .ref 422, .ref 423, .ref 424, .ref 425, .ref 426, .ref 427, .ref 428, .ref 429, .ref 430, .ref 431, .ref 432, .ref 433]) := (hN54 420 (by decide)).trans h5
  have f57 : h51 422 = .inl (0, 240, .inl G) := (hN54 422 (by decide)).trans h22
  refine r_iinc (y := nI (k + 1)) (ls' := [some (.ref 420), some (.int (nI i)), some (.int le), some (.int no), some (.int 1), some (.int (nI y)), some (.int (nI (4 * e))), some (.int (nI (k + 1))), u, none]) rfl dX12_beginning_106 rfl (nI_1 k) (Nat.le_of_ble_eq_true rfl) rfl ?_
  refine r_goto (pc' := 78) rfl dX12_beginning_109 ?_
  exact ih h51 hS52 hF53 f56 f57 (by rw [← bkR_s]; exact f55)
theorem z_bp1 {xs : Nat → Int32} {L d : Nat} {h0 : ev_H} {th : Int32} {tr : Int64} {ty nx tk pl va fa ss wg : Int32} {c m : Nat} {i e : Nat} {le no : Int32} {G : Nat → Int32} {Y : Nat → Int64} {Q : ev_Q} {y : Nat} {u : Option Value} (he : e < 120) (kx : ∀ h' : ev_H, SH h' → KM [426] h0 h' → h' 420 = .inr (12, [.int th, .long tr, .ref 421, .int ty, .int nx, .int tk, .int pl, .int va, .int fa, .int (nI c), .int (nI m), .int ss, .int wg, .ref 422, .ref 423, .ref 424, .ref 425, .ref 426, .ref 427, .ref 428, .ref 429, .ref 430, .ref 431, .ref 432, .ref 433]) → h' 422 = .inl (0, 240, .inl G) → h' 426 = .inl (1, 480, .inr (.inl (bkR Y e (fun _ => 0) 4))) → EV xs L (d + 2) 0 0 M_X12_beginning 434 h' 112 [some (.ref 420), some (.int (nI i)), some (.int le), some (.int no), some (.int 1), some (.int (nI y)), some (.int (nI (4 * e))), some (.int (nI 4)), u, none] [] Q) : ∀ (n k : Nat) (h : ev_H), k + n = 4 → SH h → KM [426] h0 h → h 420 = .inr (12, [.int th, .long tr, .ref 421, .int ty, .int nx, .int tk, .int pl, .int va, .int fa, .int (nI c), .int (nI m), .int ss, .int wg, .ref 422, .ref 423, .ref 424, .ref 425, .ref 426, .ref 427, .ref 428, .ref 429, .ref 430, .ref 431, .ref 432, .ref 433]) → h 422 = .inl (0, 240, .inl G) → h 426 = .inl (1, 480, .inr (.inl (bkR Y e (fun _ => 0) (k)))) → EV xs L (d + 2) 0 0 M_X12_beginning 434 h 78 [some (.ref 420), some (.int (nI i)), some (.int le), some (.int no), some (.int 1), some (.int (nI y)), some (.int (nI (4 * e))), some (.int (nI k)), u, none] [] Q := by
  intro n
  induction n with
  | zero => intro k h hk hS hF h5 h22 h26; exact z_bp1_z hS he kx hF h5 h22 h26 (by omega)
  | succ n ih => intro k h hk hS hF h5 h22 h26; exact z_bp1_s hS he kx hF h5 h22 h26 (by omega) (fun h' q0 q1 q2 q3 q4 => ih (k + 1) h' (by omega) q0 q1 q2 q3 q4)
set_option maxRecDepth 20000 in
set_option maxHeartbeats 1000000 in
theorem z_bw1_z {xs : Nat → Int32} {L d : Nat} {h : ev_H} {h0 : ev_H} {th : Int32} {tr : Int64} {ty nx tk pl va fa ss wg : Int32} {c m : Nat} {i e : Nat} {le no : Int32} {G : Nat → Int32} {Y : Nat → Int64} {Q : ev_Q} {k : Nat} {u : Option Value} (hS : SH h) (he : e < 120) (kx : ∀ (h' : ev_H) (u : Option Value), SH h' → KM [426] h0 h' → h' 420 = .inr (12, [.int th, .long tr, .ref 421, .int ty, .int nx, .int tk, .int pl, .int va, .int fa, .int (nI c), .int (nI m), .int ss, .int wg, .ref 422, .ref 423, .ref 424, .ref 425, .ref 426, .ref 427, .ref 428, .ref 429, .ref 430, .ref 431, .ref 432, .ref 433]) → h' 422 = .inl (0, 240, .inl G) → h' 426 = .inl (1, 480, .inr (.inl (hwR Y e (soB le no) (256)))) → EV xs L (d + 2) 0 0 M_X12_beginning 434 h' 220 [some (.ref 420), some (.int (nI i)), some (.int le), some (.int no), some (.int 1), some (.int 0), some (.int (nI (4 * e))), some (.int (nI 256)), u, none] [] Q) (hF : KM [426] h0 h) (h5 : h 420 = .inr (12, [.int th, .long tr, .ref 421, .int ty, .int nx, .int tk, .int pl, .int va, .int fa, .int (nI c), .int (nI m), .int ss, .int wg, .ref 422, .ref 423, .ref 424, .ref 425, .ref 426, .ref 427, .ref 428, .ref 429, .ref 430, .ref 431, .ref 432, .ref 433])) (h22 : h 422 = .inl (0, 240, .inl G)) (h26 : h 426 = .inl (1, 480, .inr (.inl (hwR Y e (soB le no) (k))))) (hk : k = 256) : EV xs L (d + 2) 0 0 M_X12_beginning 434 h 115 [some (.ref 420), some (.int (nI i)), some (.int le), some (.int no), some (.int 1), some (.int 0), some (.int (nI (4 * e))), some (.int (nI k)), u, none] [] Q := by
  refine r_iload rfl dX12_beginning_115 rfl ?_
  refine r_sipush (v := 256) rfl dX12_beginning_117 (by decide) ?_
  refine r_icmp_ge (tgt := 220) rfl rfl dX12_beginning_120 (fun _ => ?_) (fun zc => absurd (show nI (256) ≤ nI k from nI_le (a := 256) (b := k) (by omega) (by omega)) zc)
  subst hk
  exact kx h _ hS hF h5 h22 h26
set_option maxRecDepth 20000 in
set_option maxHeartbeats 1000000 in
theorem z_bw1_s {xs : Nat → Int32} {L d : Nat} {h : ev_H} {h0 : ev_H} {th : Int32} {tr : Int64} {ty nx tk pl va fa ss wg : Int32} {c m : Nat} {i e : Nat} {le no : Int32} {G : Nat → Int32} {Y : Nat → Int64} {Q : ev_Q} {k : Nat} {u : Option Value} (hS : SH h) (he : e < 120) (kx : ∀ (h' : ev_H) (u : Option Value), SH h' → KM [426] h0 h' → h' 420 = .inr (12, [.int th, .long tr, .ref 421, .int ty, .int nx, .int tk, .int pl, .int va, .int fa, .int (nI c), .int (nI m), .int ss, .int wg, .ref 422, .ref 423, .ref 424, .ref 425, .ref 426, .ref 427, .ref 428, .ref 429, .ref 430, .ref 431, .ref 432, .ref 433]) → h' 422 = .inl (0, 240, .inl G) → h' 426 = .inl (1, 480, .inr (.inl (hwR Y e (soB le no) (256)))) → EV xs L (d + 2) 0 0 M_X12_beginning 434 h' 220 [some (.ref 420), some (.int (nI i)), some (.int le), some (.int no), some (.int 1), some (.int 0), some (.int (nI (4 * e))), some (.int (nI 256)), u, none] [] Q) (hF : KM [426] h0 h) (h5 : h 420 = .inr (12, [.int th, .long tr, .ref 421, .int ty, .int nx, .int tk, .int pl, .int va, .int fa, .int (nI c), .int (nI m), .int ss, .int wg, .ref 422, .ref 423, .ref 424, .ref 425, .ref 426, .ref 427, .ref 428, .ref 429, .ref 430, .ref 431, .ref 432, .ref 433])) (h22 : h 422 = .inl (0, 240, .inl G)) (h26 : h 426 = .inl (1, 480, .inr (.inl (hwR Y e (soB le no) (k))))) (hk : k < 256) (ih : ∀ (h' : ev_H) (u' : Option Value), SH h' → KM [426] h0 h' → h' 420 = .inr (12, [.int th, .long tr, .ref 421, .int ty, .int nx, .int tk, .int pl, .int va, .int fa, .int (nI c), .int (nI m), .int ss, .int wg, .ref 422, .ref 423, .ref 424, .ref 425, .ref 426, .ref 427, .ref 428, .ref 429, .ref 430, .ref 431, .ref 432, .ref 433]) → h' 422 = .inl (0, 240, .inl G) → h' 426 = .inl (1, 480, .inr (.inl (hwR Y e (soB le no) (k + 1)))) → EV xs L (d + 2) 0 0 M_X12_beginning 434 h' 115 [some (.ref 420), some (.int (nI i)), some (.int le), some (.int no), some (.int 1), some (.int 0), some (.int (nI (4 * e))), some (.int (nI (k + 1))), u', none] [] Q) : EV xs L (d + 2) 0 0 M_X12_beginning 434 h 115 [some (.ref 420), some (.int (nI i)), some (.int le), some (.int no), some (.int 1), some (.int 0), some (.int (nI (4 * e))), some (.int (nI k)), u, none] [] Q := by
  refine r_iload rfl dX12_beginning_115 rfl ?_
  refine r_sipush (v := 256) rfl dX12_beginning_117 (by decide) ?_
  refine r_icmp_ge (tgt := 220) rfl rfl dX12_beginning_120 (fun zc => absurd zc (show ¬ nI (256) ≤ nI k from nI_ge (a := k) (b := 256) (by omega) (by omega))) (fun _ => ?_)
  refine r_iload rfl dX12_beginning_123 rfl ?_
  refine r_iload rfl dX12_beginning_125 rfl ?_
  refine r_if_eq (tgt := 134) rfl rfl dX12_beginning_127 (fun zc => absurd zc (by decide)) (fun _ => ?_)
  refine r_iconst (v := 0) rfl dX12_beginning_130 (by decide) ?_
  refine r_goto (pc' := 135) rfl dX12_beginning_131 ?_
  refine r_icmp_ne (tgt := 220) rfl rfl dX12_beginning_135 (fun zc => absurd zc (by decide)) (fun _ => ?_)
  refine r_lconst (v := 1) rfl dX12_beginning_138 (by decide) ?_
  refine r_iload rfl dX12_beginning_139 rfl ?_
  refine r_bipush (v := 63) rfl dX12_beginning_141 (by decide) ?_
  refine r_iand rfl dX12_beginning_143 ?_
  refine r_eqi (y := nI (k % 64)) (show (nI k) &&& 63 = nI (k % 64) from pk_andN (n := k) (by omega) (m := 63) 6 (by decide)) ?_
  refine r_lshl rfl dX12_beginning_144 ?_
  refine r_topl (fun x51 e52 => ?_)
  refine r_lstore (ls' := [some (.ref 420), some (.int (nI i)), some (.int le), some (.int no), some (.int 1), some (.int 0), some (.int (nI (4 * e))), some (.int (nI k)), some (.long x51), none]) rfl dX12_beginning_145 (Nat.le_of_ble_eq_true rfl) rfl ?_
  refine r_iload_n rfl dX12_beginning_147 rfl ?_
  refine r_iload_n rfl dX12_beginning_148 rfl ?_
  refine r_iload rfl dX12_beginning_149 rfl ?_
  refine cl_X12_127 rfl rfl dX12_beginning_151 (Nat.le_of_ble_eq_true rfl) (z_X12_isSo hS) ?_
  rintro _ h53 _ ⟨rfl, e54, rfl⟩
  replace e54 := e54.symm
  subst e54
  refine r_if_eq (tgt := 214) rfl rfl dX12_beginning_154 (fun c55 => ?_) (fun c55 => ?_)
  · refine r_iinc (y := nI (k + 1)) (ls' := [some (.ref 420), some (.int (nI i)), some (.int le), some (.int no), some (.int 1), some (.int 0), some (.int (nI (4 * e))), some (.int (nI (k + 1))), some (.long x51), none]) rfl dX12_beginning_214 rfl (nI_1 k) (Nat.le_of_ble_eq_true rfl) rfl ?_
    refine r_goto (pc' := 115) rfl dX12_beginning_217 ?_
    subst e52
    exact ih h _ hS hF h5 h22 (by rw [← hwR_f Y e (soB le no) hk (soB_f c55)]; exact h26)
  · refine r_aload_n rfl dX12_beginning_157 rfl ?_
    refine r_getv 17 rfl dX12_beginning_158 (show 2 ≤ 420 ∧ 420 < 434 by decide) h5 fl_X12_30 rfl ?_
    refine r_iload rfl dX12_beginning_161 rfl ?_
    refine r_iload rfl dX12_beginning_163 rfl ?_
    refine r_bipush (v := 6) rfl dX12_beginning_165 (by decide) ?_
    refine r_ishr rfl dX12_beginning_167 ?_
    refine r_eqi (y := nI (k / 64)) (show (nI k) >>> (6 &&& 31) = nI (k / 64) from pk_shrN (n := k) (by omega) ((6 : Int32) &&& 31) 6 (by decide)) ?_
    refine r_iadd rfl dX12_beginning_168 ?_
    refine r_eqi (y := nI ((4 * e) + (k / 64))) (show (nI (4 * e)) + (nI (k / 64)) = nI ((4 * e) + (k / 64)) from nI_add (4 * e) (k / 64)) ?_
    refine r_iload rfl dX12_beginning_169 rfl ?_
    refine r_if_eq (tgt := 193) rfl rfl dX12_beginning_171 (fun zc => absurd zc (by decide)) (fun _ => ?_)
    refine r_aload_n rfl dX12_beginning_174 rfl ?_
    refine r_getv 17 rfl dX12_beginning_175 (show 2 ≤ 420 ∧ 420 < 434 by decide) h5 fl_X12_30 rfl ?_
    refine r_iload rfl dX12_beginning_178 rfl ?_
    refine r_iload rfl dX12_beginning_180 rfl ?_
    refine r_bipush (v := 6) rfl dX12_beginning_182 (by decide) ?_
    refine r_ishr rfl dX12_beginning_184 ?_
    refine r_eqi (y := nI (k / 64)) (show (nI k) >>> (6 &&& 31) = nI (k / 64) from pk_shrN (n := k) (by omega) ((6 : Int32) &&& 31) 6 (by decide)) ?_
    refine r_iadd rfl dX12_beginning_185 ?_
    refine r_eqi (y := nI ((4 * e) + (k / 64))) (show (nI (4 * e)) + (nI (k / 64)) = nI ((4 * e) + (k / 64)) from nI_add (4 * e) (k / 64)) ?_
    refine r_laldv (jn := (4 * e) + (k / 64)) (v := (hwR Y e (soB le no) (k)) ((4 * e) + (k / 64))) rfl dX12_beginning_186 (show 2 ≤ 426 ∧ 426 < 434 by decide) h26 (vp_in_nI (n := (4 * e) + (k / 64)) (by omega) (by decide)) (nI_clamp (n := (4 * e) + (k / 64)) (by omega)) rfl ?_
    refine r_lload rfl dX12_beginning_187 rfl ?_
    refine r_lor rfl dX12_beginning_189 ?_
    refine r_goto (pc' := 213) rfl dX12_beginning_190 ?_
    refine e_last (jn := (4 * e) + (k / 64)) rfl dX12_beginning_213 (show 2 ≤ 426 ∧ 426 < 434 by decide) hS hF (by decide) h26 (vp_in_nI (n := (4 * e) + (k / 64)) (by omega) (by decide)) (nI_clamp (n := (4 * e) + (k / 64)) (by omega)) (fun h56 hS57 hF58 hN59 f60 => ?_)
    have f61 : h56 420 = .inr (12, [.int th, .long tr, .ref 421, .int ty, .int nx, .int tk, .int pl, .int va, .int fa, .int (nI c), .int (nI m), .int ss, .int wg, .ref 422, .ref 423, .ref 424, .ref 425, .ref 426, .ref 427, .ref 428, .ref 429, .ref 430, .ref 431, .ref 432, .ref 433]) := (hN59 420 (by decide)).trans h5
    have f62 : h56 422 = .inl (0, 240, .inl G) := (hN59 422 (by decide)).trans h22
    refine r_iinc (y := nI (k + 1)) (ls' := [some (.ref 420), some (.int (nI i)), some (.int le), some (.int no), some (.int 1), some (.int 0), some (.int (nI (4 * e))), some (.int (nI (k + 1))), some (.long x51), none]) rfl dX12_beginning_214 rfl (nI_1 k) (Nat.le_of_ble_eq_true rfl) rfl ?_
    refine r_goto (pc' := 115) rfl dX12_beginning_217 ?_
    subst e52
    exact ih h56 _ hS57 hF58 f61 f62 (by rw [← hwR_s Y e (soB le no) hk, if_pos (soB_t c55)]; exact f60)
theorem z_bw1 {xs : Nat → Int32} {L d : Nat} {h0 : ev_H} {th : Int32} {tr : Int64} {ty nx tk pl va fa ss wg : Int32} {c m : Nat} {i e : Nat} {le no : Int32} {G : Nat → Int32} {Y : Nat → Int64} {Q : ev_Q} (he : e < 120) (kx : ∀ (h' : ev_H) (u : Option Value), SH h' → KM [426] h0 h' → h' 420 = .inr (12, [.int th, .long tr, .ref 421, .int ty, .int nx, .int tk, .int pl, .int va, .int fa, .int (nI c), .int (nI m), .int ss, .int wg, .ref 422, .ref 423, .ref 424, .ref 425, .ref 426, .ref 427, .ref 428, .ref 429, .ref 430, .ref 431, .ref 432, .ref 433]) → h' 422 = .inl (0, 240, .inl G) → h' 426 = .inl (1, 480, .inr (.inl (hwR Y e (soB le no) (256)))) → EV xs L (d + 2) 0 0 M_X12_beginning 434 h' 220 [some (.ref 420), some (.int (nI i)), some (.int le), some (.int no), some (.int 1), some (.int 0), some (.int (nI (4 * e))), some (.int (nI 256)), u, none] [] Q) : ∀ (n k : Nat) (h : ev_H) (u : Option Value), k + n = 256 → SH h → KM [426] h0 h → h 420 = .inr (12, [.int th, .long tr, .ref 421, .int ty, .int nx, .int tk, .int pl, .int va, .int fa, .int (nI c), .int (nI m), .int ss, .int wg, .ref 422, .ref 423, .ref 424, .ref 425, .ref 426, .ref 427, .ref 428, .ref 429, .ref 430, .ref 431, .ref 432, .ref 433]) → h 422 = .inl (0, 240, .inl G) → h 426 = .inl (1, 480, .inr (.inl (hwR Y e (soB le no) (k)))) → EV xs L (d + 2) 0 0 M_X12_beginning 434 h 115 [some (.ref 420), some (.int (nI i)), some (.int le), some (.int no), some (.int 1), some (.int 0), some (.int (nI (4 * e))), some (.int (nI k)), u, none] [] Q := by
  intro n
  induction n with
  | zero => intro k h u hk hS hF h5 h22 h26; exact z_bw1_z hS he kx hF h5 h22 h26 (by omega)
  | succ n ih => intro k h u hk hS hF h5 h22 h26; exact z_bw1_s hS he kx hF h5 h22 h26 (by omega) (fun h' u q0 q1 q2 q3 q4 => ih (k + 1) h' u (by omega) q0 q1 q2 q3 q4)
set_option maxRecDepth 20000 in
set_option maxHeartbeats 1000000 in
theorem z_bp0_z {xs : Nat → Int32} {L d : Nat} {h : ev_H} {h0 : ev_H} {th : Int32} {tr : Int64} {ty nx tk pl va fa ss wg : Int32} {c m : Nat} {i e : Nat} {le no : Int32} {G : Nat → Int32} {Y : Nat → Int64} {Q : ev_Q} {y : Nat} {u : Option Value} {k : Nat} (hS : SH h) (he : e < 120) (kx : ∀ h' : ev_H, SH h' → KM [426] h0 h' → h' 420 = .inr (12, [.int th, .long tr, .ref 421, .int ty, .int nx, .int tk, .int pl, .int va, .int fa, .int (nI c), .int (nI m), .int ss, .int wg, .ref 422, .ref 423, .ref 424, .ref 425, .ref 426, .ref 427, .ref 428, .ref 429, .ref 430, .ref 431, .ref 432, .ref 433]) → h' 422 = .inl (0, 240, .inl G) → h' 426 = .inl (1, 480, .inr (.inl (bkR Y e (fun _ => (-1)) 4))) → EV xs L (d + 2) 0 0 M_X12_beginning 434 h' 112 [some (.ref 420), some (.int (nI i)), some (.int le), some (.int no), some (.int 0), some (.int (nI y)), some (.int (nI (4 * e))), some (.int (nI 4)), u, none] [] Q) (hF : KM [426] h0 h) (h5 : h 420 = .inr (12, [.int th, .long tr, .ref 421, .int ty, .int nx, .int tk, .int pl, .int va, .int fa, .int (nI c), .int (nI m), .int ss, .int wg, .ref 422, .ref 423, .ref 424, .ref 425, .ref 426, .ref 427, .ref 428, .ref 429, .ref 430, .ref 431, .ref 432, .ref 433])) (h22 : h 422 = .inl (0, 240, .inl G)) (h26 : h 426 = .inl (1, 480, .inr (.inl (bkR Y e (fun _ => (-1)) (k))))) (hk : k = 4) : EV xs L (d + 2) 0 0 M_X12_beginning 434 h 78 [some (.ref 420), some (.int (nI i)), some (.int le), some (.int no), some (.int 0), some (.int (nI y)), some (.int (nI (4 * e))), some (.int (nI k)), u, none] [] Q := by
  refine r_iload rfl dX12_beginning_78 rfl ?_
  refine r_iconst (v := 4) rfl dX12_beginning_80 (by decide) ?_
  refine r_icmp_ge (tgt := 112) rfl rfl dX12_beginning_81 (fun _ => ?_) (fun zc => absurd (show nI (4) ≤ nI k from nI_le (a := 4) (b := k) (by omega) (by omega)) zc)
  subst hk
  exact kx h hS hF h5 h22 h26
set_option maxRecDepth 20000 in
set_option maxHeartbeats 1000000 in
theorem z_bp0_s {xs : Nat → Int32} {L d : Nat} {h : ev_H} {h0 : ev_H} {th : Int32} {tr : Int64} {ty nx tk pl va fa ss wg : Int32} {c m : Nat} {i e : Nat} {le no : Int32} {G : Nat → Int32} {Y : Nat → Int64} {Q : ev_Q} {y : Nat} {u : Option Value} {k : Nat} (hS : SH h) (he : e < 120) (kx : ∀ h' : ev_H, SH h' → KM [426] h0 h' → h' 420 = .inr (12, [.int th, .long tr, .ref 421, .int ty, .int nx, .int tk, .int pl, .int va, .int fa, .int (nI c), .int (nI m), .int ss, .int wg, .ref 422, .ref 423, .ref 424, .ref 425, .ref 426, .ref 427, .ref 428, .ref 429, .ref 430, .ref 431, .ref 432, .ref 433]) → h' 422 = .inl (0, 240, .inl G) → h' 426 = .inl (1, 480, .inr (.inl (bkR Y e (fun _ => (-1)) 4))) → EV xs L (d + 2) 0 0 M_X12_beginning 434 h' 112 [some (.ref 420), some (.int (nI i)), some (.int le), some (.int no), some (.int 0), some (.int (nI y)), some (.int (nI (4 * e))), some (.int (nI 4)), u, none] [] Q) (hF : KM [426] h0 h) (h5 : h 420 = .inr (12, [.int th, .long tr, .ref 421, .int ty, .int nx, .int tk, .int pl, .int va, .int fa, .int (nI c), .int (nI m), .int ss, .int wg, .ref 422, .ref 423, .ref 424, .ref 425, .ref 426, .ref 427, .ref 428, .ref 429, .ref 430, .ref 431, .ref 432, .ref 433])) (h22 : h 422 = .inl (0, 240, .inl G)) (h26 : h 426 = .inl (1, 480, .inr (.inl (bkR Y e (fun _ => (-1)) (k))))) (hk : k < 4) (ih : ∀ (h' : ev_H), SH h' → KM [426] h0 h' → h' 420 = .inr (12, [.int th, .long tr, .ref 421, .int ty, .int nx, .int tk, .int pl, .int va, .int fa, .int (nI c), .int (nI m), .int ss, .int wg, .ref 422, .ref 423, .ref 424, .ref 425, .ref 426, .ref 427, .ref 428, .ref 429, .ref 430, .ref 431, .ref 432, .ref 433]) → h' 422 = .inl (0, 240, .inl G) → h' 426 = .inl (1, 480, .inr (.inl (bkR Y e (fun _ => (-1)) (k + 1)))) → EV xs L (d + 2) 0 0 M_X12_beginning 434 h' 78 [some (.ref 420), some (.int (nI i)), some (.int le), some (.int no), some (.int 0), some (.int (nI y)), some (.int (nI (4 * e))), some (.int (nI (k + 1))), u, none] [] Q) : EV xs L (d + 2) 0 0 M_X12_beginning 434 h 78 [some (.ref 420), some (.int (nI i)), some (.int le), some (.int no), some (.int 0), some (.int (nI y)), some (.int (nI (4 * e))), some (.int (nI k)), u, none] [] Q := by
  refine r_iload rfl dX12_beginning_78 rfl ?_
  refine r_iconst (v := 4) rfl dX12_beginning_80 (by decide) ?_
  refine r_icmp_ge (tgt := 112) rfl rfl dX12_beginning_81 (fun zc => absurd zc (show ¬ nI (4) ≤ nI k from nI_ge (a := k) (b := 4) (by omega) (by omega))) (fun _ => ?_)
  refine r_aload_n rfl dX12_beginning_84 rfl ?_
  refine r_getv 17 rfl dX12_beginning_85 (show 2 ≤ 420 ∧ 420 < 434 by decide) h5 fl_X12_30 rfl ?_
  refine r_iload rfl dX12_beginning_88 rfl ?_
  refine r_iload rfl dX12_beginning_90 rfl ?_
  refine r_iadd rfl dX12_beginning_92 ?_
  refine r_eqi (y := nI ((4 * e) + k)) (show (nI (4 * e)) + (nI k) = nI ((4 * e) + k) from nI_add (4 * e) k) ?_
  refine r_iload rfl dX12_beginning_93 rfl ?_
  refine r_if_eq (tgt := 102) rfl rfl dX12_beginning_95 (fun _ => ?_) (fun zc => absurd zc (by decide))
  refine r_ldc2 (v := (-1)) rfl dX12_beginning_102 lc_X12_137 ?_
  refine e_last (jn := (4 * e) + k) rfl dX12_beginning_105 (show 2 ≤ 426 ∧ 426 < 434 by decide) hS hF (by decide) h26 (vp_in_nI (n := (4 * e) + k) (by omega) (by decide)) (nI_clamp (n := (4 * e) + k) (by omega)) (fun h51 hS52 hF53 hN54 f55 => ?_)
  have f56 : h51 420 = .inr (12, [.int th, .long tr, .ref 421, .int ty, .int nx, .int tk, .int pl, .int va, .int fa, .int (nI c), .int (nI m), .int ss, .int wg, .ref 422, .ref 423, .ref 424, .ref 425, .ref 426, .ref 427, .ref 428, .ref 429, .ref 430, .ref 431, .ref 432, .ref 433]) := (hN54 420 (by decide)).trans h5
  have f57 : h51 422 = .inl (0, 240, .inl G) := (hN54 422 (by decide)).trans h22
  refine r_iinc (y := nI (k + 1)) (ls' := [some (.ref 420), some (.int (nI i)), some (.int le), some (.int no), some (.int 0), some (.int (nI y)), some (.int (nI (4 * e))), some (.int (nI (k + 1))), u, none]) rfl dX12_beginning_106 rfl (nI_1 k) (Nat.le_of_ble_eq_true rfl) rfl ?_
  refine r_goto (pc' := 78) rfl dX12_beginning_109 ?_
  exact ih h51 hS52 hF53 f56 f57 (by rw [← bkR_s]; exact f55)
theorem z_bp0 {xs : Nat → Int32} {L d : Nat} {h0 : ev_H} {th : Int32} {tr : Int64} {ty nx tk pl va fa ss wg : Int32} {c m : Nat} {i e : Nat} {le no : Int32} {G : Nat → Int32} {Y : Nat → Int64} {Q : ev_Q} {y : Nat} {u : Option Value} (he : e < 120) (kx : ∀ h' : ev_H, SH h' → KM [426] h0 h' → h' 420 = .inr (12, [.int th, .long tr, .ref 421, .int ty, .int nx, .int tk, .int pl, .int va, .int fa, .int (nI c), .int (nI m), .int ss, .int wg, .ref 422, .ref 423, .ref 424, .ref 425, .ref 426, .ref 427, .ref 428, .ref 429, .ref 430, .ref 431, .ref 432, .ref 433]) → h' 422 = .inl (0, 240, .inl G) → h' 426 = .inl (1, 480, .inr (.inl (bkR Y e (fun _ => (-1)) 4))) → EV xs L (d + 2) 0 0 M_X12_beginning 434 h' 112 [some (.ref 420), some (.int (nI i)), some (.int le), some (.int no), some (.int 0), some (.int (nI y)), some (.int (nI (4 * e))), some (.int (nI 4)), u, none] [] Q) : ∀ (n k : Nat) (h : ev_H), k + n = 4 → SH h → KM [426] h0 h → h 420 = .inr (12, [.int th, .long tr, .ref 421, .int ty, .int nx, .int tk, .int pl, .int va, .int fa, .int (nI c), .int (nI m), .int ss, .int wg, .ref 422, .ref 423, .ref 424, .ref 425, .ref 426, .ref 427, .ref 428, .ref 429, .ref 430, .ref 431, .ref 432, .ref 433]) → h 422 = .inl (0, 240, .inl G) → h 426 = .inl (1, 480, .inr (.inl (bkR Y e (fun _ => (-1)) (k)))) → EV xs L (d + 2) 0 0 M_X12_beginning 434 h 78 [some (.ref 420), some (.int (nI i)), some (.int le), some (.int no), some (.int 0), some (.int (nI y)), some (.int (nI (4 * e))), some (.int (nI k)), u, none] [] Q := by
  intro n
  induction n with
  | zero => intro k h hk hS hF h5 h22 h26; exact z_bp0_z hS he kx hF h5 h22 h26 (by omega)
  | succ n ih => intro k h hk hS hF h5 h22 h26; exact z_bp0_s hS he kx hF h5 h22 h26 (by omega) (fun h' q0 q1 q2 q3 q4 => ih (k + 1) h' (by omega) q0 q1 q2 q3 q4)
set_option maxRecDepth 20000 in
set_option maxHeartbeats 1000000 in
theorem z_bw0_z {xs : Nat → Int32} {L d : Nat} {h : ev_H} {h0 : ev_H} {th : Int32} {tr : Int64} {ty nx tk pl va fa ss wg : Int32} {c m : Nat} {i e : Nat} {le no : Int32} {G : Nat → Int32} {Y : Nat → Int64} {Q : ev_Q} {k : Nat} {u : Option Value} (hS : SH h) (he : e < 120) (kx : ∀ (h' : ev_H) (u : Option Value), SH h' → KM [426] h0 h' → h' 420 = .inr (12, [.int th, .long tr, .ref 421, .int ty, .int nx, .int tk, .int pl, .int va, .int fa, .int (nI c), .int (nI m), .int ss, .int wg, .ref 422, .ref 423, .ref 424, .ref 425, .ref 426, .ref 427, .ref 428, .ref 429, .ref 430, .ref 431, .ref 432, .ref 433]) → h' 422 = .inl (0, 240, .inl G) → h' 426 = .inl (1, 480, .inr (.inl (hnR Y e (soB le no) (256)))) → EV xs L (d + 2) 0 0 M_X12_beginning 434 h' 220 [some (.ref 420), some (.int (nI i)), some (.int le), some (.int no), some (.int 0), some (.int 1), some (.int (nI (4 * e))), some (.int (nI 256)), u, none] [] Q) (hF : KM [426] h0 h) (h5 : h 420 = .inr (12, [.int th, .long tr, .ref 421, .int ty, .int nx, .int tk, .int pl, .int va, .int fa, .int (nI c), .int (nI m), .int ss, .int wg, .ref 422, .ref 423, .ref 424, .ref 425, .ref 426, .ref 427, .ref 428, .ref 429, .ref 430, .ref 431, .ref 432, .ref 433])) (h22 : h 422 = .inl (0, 240, .inl G)) (h26 : h 426 = .inl (1, 480, .inr (.inl (hnR Y e (soB le no) (k))))) (hk : k = 256) : EV xs L (d + 2) 0 0 M_X12_beginning 434 h 115 [some (.ref 420), some (.int (nI i)), some (.int le), some (.int no), some (.int 0), some (.int 1), some (.int (nI (4 * e))), some (.int (nI k)), u, none] [] Q := by
  refine r_iload rfl dX12_beginning_115 rfl ?_
  refine r_sipush (v := 256) rfl dX12_beginning_117 (by decide) ?_
  refine r_icmp_ge (tgt := 220) rfl rfl dX12_beginning_120 (fun _ => ?_) (fun zc => absurd (show nI (256) ≤ nI k from nI_le (a := 256) (b := k) (by omega) (by omega)) zc)
  subst hk
  exact kx h _ hS hF h5 h22 h26
set_option maxRecDepth 20000 in
set_option maxHeartbeats 1000000 in
theorem z_bw0_s {xs : Nat → Int32} {L d : Nat} {h : ev_H} {h0 : ev_H} {th : Int32} {tr : Int64} {ty nx tk pl va fa ss wg : Int32} {c m : Nat} {i e : Nat} {le no : Int32} {G : Nat → Int32} {Y : Nat → Int64} {Q : ev_Q} {k : Nat} {u : Option Value} (hS : SH h) (he : e < 120) (kx : ∀ (h' : ev_H) (u : Option Value), SH h' → KM [426] h0 h' → h' 420 = .inr (12, [.int th, .long tr, .ref 421, .int ty, .int nx, .int tk, .int pl, .int va, .int fa, .int (nI c), .int (nI m), .int ss, .int wg, .ref 422, .ref 423, .ref 424, .ref 425, .ref 426, .ref 427, .ref 428, .ref 429, .ref 430, .ref 431, .ref 432, .ref 433]) → h' 422 = .inl (0, 240, .inl G) → h' 426 = .inl (1, 480, .inr (.inl (hnR Y e (soB le no) (256)))) → EV xs L (d + 2) 0 0 M_X12_beginning 434 h' 220 [some (.ref 420), some (.int (nI i)), some (.int le), some (.int no), some (.int 0), some (.int 1), some (.int (nI (4 * e))), some (.int (nI 256)), u, none] [] Q) (hF : KM [426] h0 h) (h5 : h 420 = .inr (12, [.int th, .long tr, .ref 421, .int ty, .int nx, .int tk, .int pl, .int va, .int fa, .int (nI c), .int (nI m), .int ss, .int wg, .ref 422, .ref 423, .ref 424, .ref 425, .ref 426, .ref 427, .ref 428, .ref 429, .ref 430, .ref 431, .ref 432, .ref 433])) (h22 : h 422 = .inl (0, 240, .inl G)) (h26 : h 426 = .inl (1, 480, .inr (.inl (hnR Y e (soB le no) (k))))) (hk : k < 256) (ih : ∀ (h' : ev_H) (u' : Option Value), SH h' → KM [426] h0 h' → h' 420 = .inr (12, [.int th, .long tr, .ref 421, .int ty, .int nx, .int tk, .int pl, .int va, .int fa, .int (nI c), .int (nI m), .int ss, .int wg, .ref 422, .ref 423, .ref 424, .ref 425, .ref 426, .ref 427, .ref 428, .ref 429, .ref 430, .ref 431, .ref 432, .ref 433]) → h' 422 = .inl (0, 240, .inl G) → h' 426 = .inl (1, 480, .inr (.inl (hnR Y e (soB le no) (k + 1)))) → EV xs L (d + 2) 0 0 M_X12_beginning 434 h' 115 [some (.ref 420), some (.int (nI i)), some (.int le), some (.int no), some (.int 0), some (.int 1), some (.int (nI (4 * e))), some (.int (nI (k + 1))), u', none] [] Q) : EV xs L (d + 2) 0 0 M_X12_beginning 434 h 115 [some (.ref 420), some (.int (nI i)), some (.int le), some (.int no), some (.int 0), some (.int 1), some (.int (nI (4 * e))), some (.int (nI k)), u, none] [] Q := by
  refine r_iload rfl dX12_beginning_115 rfl ?_
  refine r_sipush (v := 256) rfl dX12_beginning_117 (by decide) ?_
  refine r_icmp_ge (tgt := 220) rfl rfl dX12_beginning_120 (fun zc => absurd zc (show ¬ nI (256) ≤ nI k from nI_ge (a := k) (b := 256) (by omega) (by omega))) (fun _ => ?_)
  refine r_iload rfl dX12_beginning_123 rfl ?_
  refine r_iload rfl dX12_beginning_125 rfl ?_
  refine r_if_eq (tgt := 134) rfl rfl dX12_beginning_127 (fun _ => ?_) (fun zc => absurd zc (by decide))
  refine r_iconst (v := 1) rfl dX12_beginning_134 (by decide) ?_
  refine r_icmp_ne (tgt := 220) rfl rfl dX12_beginning_135 (fun zc => absurd zc (by decide)) (fun _ => ?_)
  refine r_lconst (v := 1) rfl dX12_beginning_138 (by decide) ?_
  refine r_iload rfl dX12_beginning_139 rfl ?_
  refine r_bipush (v := 63) rfl dX12_beginning_141 (by decide) ?_
  refine r_iand rfl dX12_beginning_143 ?_
  refine r_eqi (y := nI (k % 64)) (show (nI k) &&& 63 = nI (k % 64) from pk_andN (n := k) (by omega) (m := 63) 6 (by decide)) ?_
  refine r_lshl rfl dX12_beginning_144 ?_
  refine r_topl (fun x51 e52 => ?_)
  refine r_lstore (ls' := [some (.ref 420), some (.int (nI i)), some (.int le), some (.int no), some (.int 0), some (.int 1), some (.int (nI (4 * e))), some (.int (nI k)), some (.long x51), none]) rfl dX12_beginning_145 (Nat.le_of_ble_eq_true rfl) rfl ?_
  refine r_iload_n rfl dX12_beginning_147 rfl ?_
  refine r_iload_n rfl dX12_beginning_148 rfl ?_
  refine r_iload rfl dX12_beginning_149 rfl ?_
  refine cl_X12_127 rfl rfl dX12_beginning_151 (Nat.le_of_ble_eq_true rfl) (z_X12_isSo hS) ?_
  rintro _ h53 _ ⟨rfl, e54, rfl⟩
  replace e54 := e54.symm
  subst e54
  refine r_if_eq (tgt := 214) rfl rfl dX12_beginning_154 (fun c55 => ?_) (fun c55 => ?_)
  · refine r_iinc (y := nI (k + 1)) (ls' := [some (.ref 420), some (.int (nI i)), some (.int le), some (.int no), some (.int 0), some (.int 1), some (.int (nI (4 * e))), some (.int (nI (k + 1))), some (.long x51), none]) rfl dX12_beginning_214 rfl (nI_1 k) (Nat.le_of_ble_eq_true rfl) rfl ?_
    refine r_goto (pc' := 115) rfl dX12_beginning_217 ?_
    subst e52
    exact ih h _ hS hF h5 h22 (by rw [← hnR_f Y e (soB le no) hk (soB_f c55)]; exact h26)
  · refine r_aload_n rfl dX12_beginning_157 rfl ?_
    refine r_getv 17 rfl dX12_beginning_158 (show 2 ≤ 420 ∧ 420 < 434 by decide) h5 fl_X12_30 rfl ?_
    refine r_iload rfl dX12_beginning_161 rfl ?_
    refine r_iload rfl dX12_beginning_163 rfl ?_
    refine r_bipush (v := 6) rfl dX12_beginning_165 (by decide) ?_
    refine r_ishr rfl dX12_beginning_167 ?_
    refine r_eqi (y := nI (k / 64)) (show (nI k) >>> (6 &&& 31) = nI (k / 64) from pk_shrN (n := k) (by omega) ((6 : Int32) &&& 31) 6 (by decide)) ?_
    refine r_iadd rfl dX12_beginning_168 ?_
    refine r_eqi (y := nI ((4 * e) + (k / 64))) (show (nI (4 * e)) + (nI (k / 64)) = nI ((4 * e) + (k / 64)) from nI_add (4 * e) (k / 64)) ?_
    refine r_iload rfl dX12_beginning_169 rfl ?_
    refine r_if_eq (tgt := 193) rfl rfl dX12_beginning_171 (fun _ => ?_) (fun zc => absurd zc (by decide))
    refine r_aload_n rfl dX12_beginning_193 rfl ?_
    refine r_getv 17 rfl dX12_beginning_194 (show 2 ≤ 420 ∧ 420 < 434 by decide) h5 fl_X12_30 rfl ?_
    refine r_iload rfl dX12_beginning_197 rfl ?_
    refine r_iload rfl dX12_beginning_199 rfl ?_
    refine r_bipush (v := 6) rfl dX12_beginning_201 (by decide) ?_
    refine r_ishr rfl dX12_beginning_203 ?_
    refine r_eqi (y := nI (k / 64)) (show (nI k) >>> (6 &&& 31) = nI (k / 64) from pk_shrN (n := k) (by omega) ((6 : Int32) &&& 31) 6 (by decide)) ?_
    refine r_iadd rfl dX12_beginning_204 ?_
    refine r_eqi (y := nI ((4 * e) + (k / 64))) (show (nI (4 * e)) + (nI (k / 64)) = nI ((4 * e) + (k / 64)) from nI_add (4 * e) (k / 64)) ?_
    refine r_laldv (jn := (4 * e) + (k / 64)) (v := (hnR Y e (soB le no) (k)) ((4 * e) + (k / 64))) rfl dX12_beginning_205 (show 2 ≤ 426 ∧ 426 < 434 by decide) h26 (vp_in_nI (n := (4 * e) + (k / 64)) (by omega) (by decide)) (nI_clamp (n := (4 * e) + (k / 64)) (by omega)) rfl ?_
    refine r_lload rfl dX12_beginning_206 rfl ?_
    refine r_ldc2 (v := (-1)) rfl dX12_beginning_208 lc_X12_137 ?_
    refine r_lxor rfl dX12_beginning_211 ?_
    refine r_land rfl dX12_beginning_212 ?_
    refine e_last (jn := (4 * e) + (k / 64)) rfl dX12_beginning_213 (show 2 ≤ 426 ∧ 426 < 434 by decide) hS hF (by decide) h26 (vp_in_nI (n := (4 * e) + (k / 64)) (by omega) (by decide)) (nI_clamp (n := (4 * e) + (k / 64)) (by omega)) (fun h56 hS57 hF58 hN59 f60 => ?_)
    have f61 : h56 420 = .inr (12, [.int th, .long tr, .ref 421, .int ty, .int nx, .int tk, .int pl, .int va, .int fa, .int (nI c), .int (nI m), .int ss, .int wg, .ref 422, .ref 423, .ref 424, .ref 425, .ref 426, .ref 427, .ref 428, .ref 429, .ref 430, .ref 431, .ref 432, .ref 433]) := (hN59 420 (by decide)).trans h5
    have f62 : h56 422 = .inl (0, 240, .inl G) := (hN59 422 (by decide)).trans h22
    refine r_iinc (y := nI (k + 1)) (ls' := [some (.ref 420), some (.int (nI i)), some (.int le), some (.int no), some (.int 0), some (.int 1), some (.int (nI (4 * e))), some (.int (nI (k + 1))), some (.long x51), none]) rfl dX12_beginning_214 rfl (nI_1 k) (Nat.le_of_ble_eq_true rfl) rfl ?_
    refine r_goto (pc' := 115) rfl dX12_beginning_217 ?_
    subst e52
    exact ih h56 _ hS57 hF58 f61 f62 (by rw [← hnR_t Y e (soB le no) hk (soB_t c55)]; exact f60)
theorem z_bw0 {xs : Nat → Int32} {L d : Nat} {h0 : ev_H} {th : Int32} {tr : Int64} {ty nx tk pl va fa ss wg : Int32} {c m : Nat} {i e : Nat} {le no : Int32} {G : Nat → Int32} {Y : Nat → Int64} {Q : ev_Q} (he : e < 120) (kx : ∀ (h' : ev_H) (u : Option Value), SH h' → KM [426] h0 h' → h' 420 = .inr (12, [.int th, .long tr, .ref 421, .int ty, .int nx, .int tk, .int pl, .int va, .int fa, .int (nI c), .int (nI m), .int ss, .int wg, .ref 422, .ref 423, .ref 424, .ref 425, .ref 426, .ref 427, .ref 428, .ref 429, .ref 430, .ref 431, .ref 432, .ref 433]) → h' 422 = .inl (0, 240, .inl G) → h' 426 = .inl (1, 480, .inr (.inl (hnR Y e (soB le no) (256)))) → EV xs L (d + 2) 0 0 M_X12_beginning 434 h' 220 [some (.ref 420), some (.int (nI i)), some (.int le), some (.int no), some (.int 0), some (.int 1), some (.int (nI (4 * e))), some (.int (nI 256)), u, none] [] Q) : ∀ (n k : Nat) (h : ev_H) (u : Option Value), k + n = 256 → SH h → KM [426] h0 h → h 420 = .inr (12, [.int th, .long tr, .ref 421, .int ty, .int nx, .int tk, .int pl, .int va, .int fa, .int (nI c), .int (nI m), .int ss, .int wg, .ref 422, .ref 423, .ref 424, .ref 425, .ref 426, .ref 427, .ref 428, .ref 429, .ref 430, .ref 431, .ref 432, .ref 433]) → h 422 = .inl (0, 240, .inl G) → h 426 = .inl (1, 480, .inr (.inl (hnR Y e (soB le no) (k)))) → EV xs L (d + 2) 0 0 M_X12_beginning 434 h 115 [some (.ref 420), some (.int (nI i)), some (.int le), some (.int no), some (.int 0), some (.int 1), some (.int (nI (4 * e))), some (.int (nI k)), u, none] [] Q := by
  intro n
  induction n with
  | zero => intro k h u hk hS hF h5 h22 h26; exact z_bw0_z hS he kx hF h5 h22 h26 (by omega)
  | succ n ih => intro k h u hk hS hF h5 h22 h26; exact z_bw0_s hS he kx hF h5 h22 h26 (by omega) (fun h' u q0 q1 q2 q3 q4 => ih (k + 1) h' u (by omega) q0 q1 q2 q3 q4)
def bgO (Y : Nat → Int64) (i : Nat) (P : Nat → Bool) : Nat → Int64 := bkR (bkR (hwR Y i P 256) (40 + i) (fun _ => 0) 4) (80 + i) (fun _ => 0) 4
def bgT (Y : Nat → Int64) (i : Nat) (P : Nat → Bool) : Nat → Int64 := bkR (hnR (bkR Y i (fun _ => (-1)) 4) (40 + i) P 256) (80 + i) (fun _ => (-1)) 4
/-- what a CLAUSE says, put into the row -/
def bgY (G : Nat → Int32) (c : Nat) (Y : Nat → Int64) (i : Nat) : Nat → Int64 := if G (6 * i + 2) = 1 then bgO Y i (soB (G (6 * i) &&& shM G c) (G (6 * i + 1) &&& shM G c)) else bgT Y i (soB (G (6 * i) &&& shM G c) (G (6 * i + 1) &&& shM G c))
set_option maxRecDepth 20000 in
set_option maxHeartbeats 1000000 in
theorem z_beg1 {xs : Nat → Int32} {L d : Nat} {h : ev_H} {th : Int32} {tr : Int64} {ty nx tk pl va fa ss wg : Int32} {c m : Nat} {i : Nat} {G : Nat → Int32} {Y : Nat → Int64} (hS : SH h) (h5 : h 420 = .inr (12, [.int th, .long tr, .ref 421, .int ty, .int nx, .int tk, .int pl, .int va, .int fa, .int (nI c), .int (nI m), .int ss, .int wg, .ref 422, .ref 423, .ref 424, .ref 425, .ref 426, .ref 427, .ref 428, .ref 429, .ref 430, .ref 431, .ref 432, .ref 433])) (hc : c ≤ 16) (hm : m ≤ 24) (hi : i < 40) (h22 : h 422 = cI 240 G) (h26 : h 426 = cL 480 Y) (ho : G (6 * i + 2) = 1) : EV xs L (d + 2) 0 0 M_X12_beginning 434 h 0 [some (.ref 420), some (.int (nI i)), none, none, none, none, none, none, none, none] [] (fun sz' h' r => sz' = 434 ∧ SH h' ∧ KM [426] h h' ∧ h' 426 = cL 480 (bgY G c Y i) ∧ r = []) := by
  refine r_aload_n rfl dX12_beginning_0 rfl ?_
  refine r_getv 13 rfl dX12_beginning_1 (show 2 ≤ 420 ∧ 420 < 434 by decide) h5 fl_X12_17 rfl ?_
  refine r_bipush (v := 6) rfl dX12_beginning_4 (by decide) ?_
  refine r_iload_n rfl dX12_beginning_6 rfl ?_
  refine r_imul rfl dX12_beginning_7 ?_
  refine r_eqi (y := nI (6 * i)) (show 6 * (nI i) = nI (6 * i) from pk_mul 6 i) ?_
  refine r_ialdv (jn := 6 * i) (v := G (6 * i)) rfl dX12_beginning_8 (show 2 ≤ 422 ∧ 422 < 434 by decide) h22 (vp_in_nI (n := 6 * i) (by omega) (by decide)) (nI_clamp (n := 6 * i) (by omega)) rfl ?_
  refine r_aload_n rfl dX12_beginning_9 rfl ?_
  refine cl_X12_133 rfl rfl dX12_beginning_10 (show 2 ≤ 420 ∧ 420 < 434 by decide).1 (show 2 ≤ 420 ∧ 420 < 434 by decide).2 h5 (Nat.le_of_ble_eq_true rfl) (z_X12_shared hS h5 hc hm h22) ?_
  rintro _ h51 _ ⟨rfl, e52, rfl⟩
  replace e52 := e52.symm
  subst e52
  refine r_iand rfl dX12_beginning_13 ?_
  refine r_topi (fun x53 e54 => ?_)
  refine r_istore_n (ls' := [some (.ref 420), some (.int (nI i)), some (.int x53), none, none, none, none, none, none, none]) rfl dX12_beginning_14 (Nat.le_of_ble_eq_true rfl) rfl ?_
  refine r_aload_n rfl dX12_beginning_15 rfl ?_
  refine r_getv 13 rfl dX12_beginning_16 (show 2 ≤ 420 ∧ 420 < 434 by decide) h5 fl_X12_17 rfl ?_
  refine r_bipush (v := 6) rfl dX12_beginning_19 (by decide) ?_
  refine r_iload_n rfl dX12_beginning_21 rfl ?_
  refine r_imul rfl dX12_beginning_22 ?_
  refine r_eqi (y := nI (6 * i)) (show 6 * (nI i) = nI (6 * i) from pk_mul 6 i) ?_
  refine r_iconst (v := 1) rfl dX12_beginning_23 (by decide) ?_
  refine r_iadd rfl dX12_beginning_24 ?_
  refine r_eqi (y := nI ((6 * i) + 1)) (show (nI (6 * i)) + 1 = nI ((6 * i) + 1) from nI_add (6 * i) 1) ?_
  refine r_ialdv (jn := (6 * i) + 1) (v := G ((6 * i) + 1)) rfl dX12_beginning_25 (show 2 ≤ 422 ∧ 422 < 434 by decide) h22 (vp_in_nI (n := (6 * i) + 1) (by omega) (by decide)) (nI_clamp (n := (6 * i) + 1) (by omega)) rfl ?_
  refine r_aload_n rfl dX12_beginning_26 rfl ?_
  refine cl_X12_133 rfl rfl dX12_beginning_27 (show 2 ≤ 420 ∧ 420 < 434 by decide).1 (show 2 ≤ 420 ∧ 420 < 434 by decide).2 h5 (Nat.le_of_ble_eq_true rfl) (z_X12_shared hS h5 hc hm h22) ?_
  rintro _ h55 _ ⟨rfl, e56, rfl⟩
  replace e56 := e56.symm
  subst e56
  refine r_iand rfl dX12_beginning_30 ?_
  refine r_topi (fun x57 e58 => ?_)
  refine r_istore_n (ls' := [some (.ref 420), some (.int (nI i)), some (.int x53), some (.int x57), none, none, none, none, none, none]) rfl dX12_beginning_31 (Nat.le_of_ble_eq_true rfl) rfl ?_
  refine r_aload_n rfl dX12_beginning_32 rfl ?_
  refine r_getv 13 rfl dX12_beginning_33 (show 2 ≤ 420 ∧ 420 < 434 by decide) h5 fl_X12_17 rfl ?_
  refine r_bipush (v := 6) rfl dX12_beginning_36 (by decide) ?_
  refine r_iload_n rfl dX12_beginning_38 rfl ?_
  refine r_imul rfl dX12_beginning_39 ?_
  refine r_eqi (y := nI (6 * i)) (show 6 * (nI i) = nI (6 * i) from pk_mul 6 i) ?_
  refine r_iconst (v := 2) rfl dX12_beginning_40 (by decide) ?_
  refine r_iadd rfl dX12_beginning_41 ?_
  refine r_eqi (y := nI ((6 * i) + 2)) (show (nI (6 * i)) + 2 = nI ((6 * i) + 2) from nI_add (6 * i) 2) ?_
  refine r_ialdv (jn := (6 * i) + 2) (v := G ((6 * i) + 2)) rfl dX12_beginning_42 (show 2 ≤ 422 ∧ 422 < 434 by decide) h22 (vp_in_nI (n := (6 * i) + 2) (by omega) (by decide)) (nI_clamp (n := (6 * i) + 2) (by omega)) rfl ?_
  refine r_iconst (v := 1) rfl dX12_beginning_43 (by decide) ?_
  refine r_icmp_ne (tgt := 51) rfl rfl dX12_beginning_44 (fun zc => absurd zc (fun z => z ho)) (fun _ => ?_)
  refine r_iconst (v := 1) rfl dX12_beginning_47 (by decide) ?_
  refine r_goto (pc' := 52) rfl dX12_beginning_48 ?_
  refine r_istore (ls' := [some (.ref 420), some (.int (nI i)), some (.int x53), some (.int x57), some (.int 1), none, none, none, none, none]) rfl dX12_beginning_52 (Nat.le_of_ble_eq_true rfl) rfl ?_
  refine r_iconst (v := 0) rfl dX12_beginning_54 (by decide) ?_
  refine r_istore (ls' := [some (.ref 420), some (.int (nI i)), some (.int x53), some (.int x57), some (.int 1), some (.int 0), none, none, none, none]) rfl dX12_beginning_55 (Nat.le_of_ble_eq_true rfl) rfl ?_
  refine r_iload rfl dX12_beginning_57 rfl ?_
  refine r_iconst (v := 3) rfl dX12_beginning_59 (by decide) ?_
  refine r_icmp_ge (tgt := 226) rfl rfl dX12_beginning_60 (fun zc => absurd zc (by decide)) (fun _ => ?_)
  refine r_sipush (v := 160) rfl dX12_beginning_63 (by decide) ?_
  refine r_iload rfl dX12_beginning_66 rfl ?_
  refine r_imul rfl dX12_beginning_68 ?_
  refine r_eqi (y := 0) (by decide) ?_
  refine r_iconst (v := 4) rfl dX12_beginning_69 (by decide) ?_
  refine r_iload_n rfl dX12_beginning_70 rfl ?_
  refine r_imul rfl dX12_beginning_71 ?_
  refine r_eqi (y := nI (4 * i)) (show 4 * (nI i) = nI (4 * i) from pk_mul 4 i) ?_
  refine r_iadd rfl dX12_beginning_72 ?_
  refine r_eqi (y := nI (0 + (4 * i))) (show 0 + (nI (4 * i)) = nI (0 + (4 * i)) from nI_add 0 (4 * i)) ?_
  refine r_istore (ls' := [some (.ref 420), some (.int (nI i)), some (.int x53), some (.int x57), some (.int 1), some (.int 0), some (.int (nI (0 + (4 * i)))), none, none, none]) rfl dX12_beginning_73 (Nat.le_of_ble_eq_true rfl) rfl ?_
  refine r_iconst (v := 0) rfl dX12_beginning_75 (by decide) ?_
  refine r_istore (ls' := [some (.ref 420), some (.int (nI i)), some (.int x53), some (.int x57), some (.int 1), some (.int 0), some (.int (nI (0 + (4 * i)))), some (.int 0), none, none]) rfl dX12_beginning_76 (Nat.le_of_ble_eq_true rfl) rfl ?_
  rw [show 0 + (4 * i) = 4 * (i) by omega]
  refine z_bp1 (e := i) (Y := Y) (y := 0) (by omega) ?_ 4 0 h rfl hS (KM_rf (Mod := [426]) h) h5 h22 (by rw [bkR_0]; exact h26)
  intro h59 hS60 hF61 f62 f63 f64
  refine r_iconst (v := 0) rfl dX12_beginning_112 (by decide) ?_
  refine r_istore (ls' := [some (.ref 420), some (.int (nI i)), some (.int x53), some (.int x57), some (.int 1), some (.int 0), some (.int (nI (4 * (i)))), some (.int 0), none, none]) rfl dX12_beginning_113 (Nat.le_of_ble_eq_true rfl) rfl ?_
  refine z_bw1 (e := i) (Y := Y) (by omega) ?_ 256 0 h59 _ rfl hS60 hF61 f62 f63 (by rw [← hwR_0, hzR_bk]; exact f64)
  intro h65 u66 hS67 hF68 f69 f70 f71
  refine r_iinc (y := 1) (ls' := [some (.ref 420), some (.int (nI i)), some (.int x53), some (.int x57), some (.int 1), some (.int 1), some (.int (nI (4 * (i)))), some (.int (nI 256)), u66, none]) rfl dX12_beginning_220 rfl (by decide) (Nat.le_of_ble_eq_true rfl) rfl ?_
  refine r_goto (pc' := 57) rfl dX12_beginning_223 ?_
  refine r_iload rfl dX12_beginning_57 rfl ?_
  refine r_iconst (v := 3) rfl dX12_beginning_59 (by decide) ?_
  refine r_icmp_ge (tgt := 226) rfl rfl dX12_beginning_60 (fun zc => absurd zc (by decide)) (fun _ => ?_)
  refine r_sipush (v := 160) rfl dX12_beginning_63 (by decide) ?_
  refine r_iload rfl dX12_beginning_66 rfl ?_
  refine r_imul rfl dX12_beginning_68 ?_
  refine r_eqi (y := 160) (by decide) ?_
  refine r_iconst (v := 4) rfl dX12_beginning_69 (by decide) ?_
  refine r_iload_n rfl dX12_beginning_70 rfl ?_
  refine r_imul rfl dX12_beginning_71 ?_
  refine r_eqi (y := nI (4 * i)) (show 4 * (nI i) = nI (4 * i) from pk_mul 4 i) ?_
  refine r_iadd rfl dX12_beginning_72 ?_
  refine r_eqi (y := nI (160 + (4 * i))) (show 160 + (nI (4 * i)) = nI (160 + (4 * i)) from nI_add 160 (4 * i)) ?_
  refine r_istore (ls' := [some (.ref 420), some (.int (nI i)), some (.int x53), some (.int x57), some (.int 1), some (.int 1), some (.int (nI (160 + (4 * i)))), some (.int (nI 256)), u66, none]) rfl dX12_beginning_73 (Nat.le_of_ble_eq_true rfl) rfl ?_
  refine r_iconst (v := 0) rfl dX12_beginning_75 (by decide) ?_
  refine r_istore (ls' := [some (.ref 420), some (.int (nI i)), some (.int x53), some (.int x57), some (.int 1), some (.int 1), some (.int (nI (160 + (4 * i)))), some (.int 0), u66, none]) rfl dX12_beginning_76 (Nat.le_of_ble_eq_true rfl) rfl ?_
  rw [show 160 + (4 * i) = 4 * (40 + i) by omega]
  refine z_bp1 (e := 40 + i) (Y := hwR Y (i) (soB x53 x57) 256) (y := 1) (by omega) ?_ 4 0 h65 rfl hS67 hF68 f69 f70 (by rw [bkR_0]; exact f71)
  intro h72 hS73 hF74 f75 f76 f77
  refine r_iconst (v := 0) rfl dX12_beginning_112 (by decide) ?_
  refine r_istore (ls' := [some (.ref 420), some (.int (nI i)), some (.int x53), some (.int x57), some (.int 1), some (.int 1), some (.int (nI (4 * (40 + i)))), some (.int 0), u66, none]) rfl dX12_beginning_113 (Nat.le_of_ble_eq_true rfl) rfl ?_
  refine r_iload rfl dX12_beginning_115 rfl ?_
  refine r_sipush (v := 256) rfl dX12_beginning_117 (by decide) ?_
  refine r_icmp_ge (tgt := 220) rfl rfl dX12_beginning_120 (fun zc => absurd zc (by decide)) (fun _ => ?_)
  refine r_iload rfl dX12_beginning_123 rfl ?_
  refine r_iload rfl dX12_beginning_125 rfl ?_
  refine r_if_eq (tgt := 134) rfl rfl dX12_beginning_127 (fun zc => absurd zc (by decide)) (fun _ => ?_)
  refine r_iconst (v := 0) rfl dX12_beginning_130 (by decide) ?_
  refine r_goto (pc' := 135) rfl dX12_beginning_131 ?_
  refine r_icmp_ne (tgt := 220) rfl rfl dX12_beginning_135 (fun _ => ?_) (fun zc => absurd zc (by decide))
  refine r_iinc (y := 2) (ls' := [some (.ref 420), some (.int (nI i)), some (.int x53), some (.int x57), some (.int 1), some (.int 2), some (.int (nI (4 * (40 + i)))), some (.int 0), u66, none]) rfl dX12_beginning_220 rfl (by decide) (Nat.le_of_ble_eq_true rfl) rfl ?_
  refine r_goto (pc' := 57) rfl dX12_beginning_223 ?_
  refine r_iload rfl dX12_beginning_57 rfl ?_
  refine r_iconst (v := 3) rfl dX12_beginning_59 (by decide) ?_
  refine r_icmp_ge (tgt := 226) rfl rfl dX12_beginning_60 (fun zc => absurd zc (by decide)) (fun _ => ?_)
  refine r_sipush (v := 160) rfl dX12_beginning_63 (by decide) ?_
  refine r_iload rfl dX12_beginning_66 rfl ?_
  refine r_imul rfl dX12_beginning_68 ?_
  refine r_eqi (y := 320) (by decide) ?_
  refine r_iconst (v := 4) rfl dX12_beginning_69 (by decide) ?_
  refine r_iload_n rfl dX12_beginning_70 rfl ?_
  refine r_imul rfl dX12_beginning_71 ?_
  refine r_eqi (y := nI (4 * i)) (show 4 * (nI i) = nI (4 * i) from pk_mul 4 i) ?_
  refine r_iadd rfl dX12_beginning_72 ?_
  refine r_eqi (y := nI (320 + (4 * i))) (show 320 + (nI (4 * i)) = nI (320 + (4 * i)) from nI_add 320 (4 * i)) ?_
  refine r_istore (ls' := [some (.ref 420), some (.int (nI i)), some (.int x53), some (.int x57), some (.int 1), some (.int 2), some (.int (nI (320 + (4 * i)))), some (.int 0), u66, none]) rfl dX12_beginning_73 (Nat.le_of_ble_eq_true rfl) rfl ?_
  refine r_iconst (v := 0) rfl dX12_beginning_75 (by decide) ?_
  refine r_istore (ls' := [some (.ref 420), some (.int (nI i)), some (.int x53), some (.int x57), some (.int 1), some (.int 2), some (.int (nI (320 + (4 * i)))), some (.int 0), u66, none]) rfl dX12_beginning_76 (Nat.le_of_ble_eq_true rfl) rfl ?_
  rw [show 320 + (4 * i) = 4 * (80 + i) by omega]
  refine z_bp1 (e := 80 + i) (Y := bkR (hwR Y (i) (soB x53 x57) 256) (40 + i) (fun _ => 0) 4) (y := 2) (by omega) ?_ 4 0 h72 rfl hS73 hF74 f75 f76 (by rw [bkR_0]; exact f77)
  intro h78 hS79 hF80 f81 f82 f83
  refine r_iconst (v := 0) rfl dX12_beginning_112 (by decide) ?_
  refine r_istore (ls' := [some (.ref 420), some (.int (nI i)), some (.int x53), some (.int x57), some (.int 1), some (.int 2), some (.int (nI (4 * (80 + i)))), some (.int 0), u66, none]) rfl dX12_beginning_113 (Nat.le_of_ble_eq_true rfl) rfl ?_
  refine r_iload rfl dX12_beginning_115 rfl ?_
  refine r_sipush (v := 256) rfl dX12_beginning_117 (by decide) ?_
  refine r_icmp_ge (tgt := 220) rfl rfl dX12_beginning_120 (fun zc => absurd zc (by decide)) (fun _ => ?_)
  refine r_iload rfl dX12_beginning_123 rfl ?_
  refine r_iload rfl dX12_beginning_125 rfl ?_
  refine r_if_eq (tgt := 134) rfl rfl dX12_beginning_127 (fun zc => absurd zc (by decide)) (fun _ => ?_)
  refine r_iconst (v := 0) rfl dX12_beginning_130 (by decide) ?_
  refine r_goto (pc' := 135) rfl dX12_beginning_131 ?_
  refine r_icmp_ne (tgt := 220) rfl rfl dX12_beginning_135 (fun _ => ?_) (fun zc => absurd zc (by decide))
  refine r_iinc (y := 3) (ls' := [some (.ref 420), some (.int (nI i)), some (.int x53), some (.int x57), some (.int 1), some (.int 3), some (.int (nI (4 * (80 + i)))), some (.int 0), u66, none]) rfl dX12_beginning_220 rfl (by decide) (Nat.le_of_ble_eq_true rfl) rfl ?_
  refine r_goto (pc' := 57) rfl dX12_beginning_223 ?_
  refine r_iload rfl dX12_beginning_57 rfl ?_
  refine r_iconst (v := 3) rfl dX12_beginning_59 (by decide) ?_
  refine r_icmp_ge (tgt := 226) rfl rfl dX12_beginning_60 (fun _ => ?_) (fun zc => absurd zc (by decide))
  rw [bgY, if_pos ho]
  subst e58
  subst e54
  exact r_ret dX12_beginning_226 (rt_v rfl) ⟨rfl, hS79, hF80, f83, rfl⟩
set_option maxRecDepth 20000 in
set_option maxHeartbeats 1000000 in
theorem z_beg0 {xs : Nat → Int32} {L d : Nat} {h : ev_H} {th : Int32} {tr : Int64} {ty nx tk pl va fa ss wg : Int32} {c m : Nat} {i : Nat} {G : Nat → Int32} {Y : Nat → Int64} (hS : SH h) (h5 : h 420 = .inr (12, [.int th, .long tr, .ref 421, .int ty, .int nx, .int tk, .int pl, .int va, .int fa, .int (nI c), .int (nI m), .int ss, .int wg, .ref 422, .ref 423, .ref 424, .ref 425, .ref 426, .ref 427, .ref 428, .ref 429, .ref 430, .ref 431, .ref 432, .ref 433])) (hc : c ≤ 16) (hm : m ≤ 24) (hi : i < 40) (h22 : h 422 = cI 240 G) (h26 : h 426 = cL 480 Y) (ho : ¬ G (6 * i + 2) = 1) : EV xs L (d + 2) 0 0 M_X12_beginning 434 h 0 [some (.ref 420), some (.int (nI i)), none, none, none, none, none, none, none, none] [] (fun sz' h' r => sz' = 434 ∧ SH h' ∧ KM [426] h h' ∧ h' 426 = cL 480 (bgY G c Y i) ∧ r = []) := by
  refine r_aload_n rfl dX12_beginning_0 rfl ?_
  refine r_getv 13 rfl dX12_beginning_1 (show 2 ≤ 420 ∧ 420 < 434 by decide) h5 fl_X12_17 rfl ?_
  refine r_bipush (v := 6) rfl dX12_beginning_4 (by decide) ?_
  refine r_iload_n rfl dX12_beginning_6 rfl ?_
  refine r_imul rfl dX12_beginning_7 ?_
  refine r_eqi (y := nI (6 * i)) (show 6 * (nI i) = nI (6 * i) from pk_mul 6 i) ?_
  refine r_ialdv (jn := 6 * i) (v := G (6 * i)) rfl dX12_beginning_8 (show 2 ≤ 422 ∧ 422 < 434 by decide) h22 (vp_in_nI (n := 6 * i) (by omega) (by decide)) (nI_clamp (n := 6 * i) (by omega)) rfl ?_
  refine r_aload_n rfl dX12_beginning_9 rfl ?_
  refine cl_X12_133 rfl rfl dX12_beginning_10 (show 2 ≤ 420 ∧ 420 < 434 by decide).1 (show 2 ≤ 420 ∧ 420 < 434 by decide).2 h5 (Nat.le_of_ble_eq_true rfl) (z_X12_shared hS h5 hc hm h22) ?_
  rintro _ h51 _ ⟨rfl, e52, rfl⟩
  replace e52 := e52.symm
  subst e52
  refine r_iand rfl dX12_beginning_13 ?_
  refine r_topi (fun x53 e54 => ?_)
  refine r_istore_n (ls' := [some (.ref 420), some (.int (nI i)), some (.int x53), none, none, none, none, none, none, none]) rfl dX12_beginning_14 (Nat.le_of_ble_eq_true rfl) rfl ?_
  refine r_aload_n rfl dX12_beginning_15 rfl ?_
  refine r_getv 13 rfl dX12_beginning_16 (show 2 ≤ 420 ∧ 420 < 434 by decide) h5 fl_X12_17 rfl ?_
  refine r_bipush (v := 6) rfl dX12_beginning_19 (by decide) ?_
  refine r_iload_n rfl dX12_beginning_21 rfl ?_
  refine r_imul rfl dX12_beginning_22 ?_
  refine r_eqi (y := nI (6 * i)) (show 6 * (nI i) = nI (6 * i) from pk_mul 6 i) ?_
  refine r_iconst (v := 1) rfl dX12_beginning_23 (by decide) ?_
  refine r_iadd rfl dX12_beginning_24 ?_
  refine r_eqi (y := nI ((6 * i) + 1)) (show (nI (6 * i)) + 1 = nI ((6 * i) + 1) from nI_add (6 * i) 1) ?_
  refine r_ialdv (jn := (6 * i) + 1) (v := G ((6 * i) + 1)) rfl dX12_beginning_25 (show 2 ≤ 422 ∧ 422 < 434 by decide) h22 (vp_in_nI (n := (6 * i) + 1) (by omega) (by decide)) (nI_clamp (n := (6 * i) + 1) (by omega)) rfl ?_
  refine r_aload_n rfl dX12_beginning_26 rfl ?_
  refine cl_X12_133 rfl rfl dX12_beginning_27 (show 2 ≤ 420 ∧ 420 < 434 by decide).1 (show 2 ≤ 420 ∧ 420 < 434 by decide).2 h5 (Nat.le_of_ble_eq_true rfl) (z_X12_shared hS h5 hc hm h22) ?_
  rintro _ h55 _ ⟨rfl, e56, rfl⟩
  replace e56 := e56.symm
  subst e56
  refine r_iand rfl dX12_beginning_30 ?_
  refine r_topi (fun x57 e58 => ?_)
  refine r_istore_n (ls' := [some (.ref 420), some (.int (nI i)), some (.int x53), some (.int x57), none, none, none, none, none, none]) rfl dX12_beginning_31 (Nat.le_of_ble_eq_true rfl) rfl ?_
  refine r_aload_n rfl dX12_beginning_32 rfl ?_
  refine r_getv 13 rfl dX12_beginning_33 (show 2 ≤ 420 ∧ 420 < 434 by decide) h5 fl_X12_17 rfl ?_
  refine r_bipush (v := 6) rfl dX12_beginning_36 (by decide) ?_
  refine r_iload_n rfl dX12_beginning_38 rfl ?_
  refine r_imul rfl dX12_beginning_39 ?_
  refine r_eqi (y := nI (6 * i)) (show 6 * (nI i) = nI (6 * i) from pk_mul 6 i) ?_
  refine r_iconst (v := 2) rfl dX12_beginning_40 (by decide) ?_
  refine r_iadd rfl dX12_beginning_41 ?_
  refine r_eqi (y := nI ((6 * i) + 2)) (show (nI (6 * i)) + 2 = nI ((6 * i) + 2) from nI_add (6 * i) 2) ?_
  refine r_ialdv (jn := (6 * i) + 2) (v := G ((6 * i) + 2)) rfl dX12_beginning_42 (show 2 ≤ 422 ∧ 422 < 434 by decide) h22 (vp_in_nI (n := (6 * i) + 2) (by omega) (by decide)) (nI_clamp (n := (6 * i) + 2) (by omega)) rfl ?_
  refine r_iconst (v := 1) rfl dX12_beginning_43 (by decide) ?_
  refine r_icmp_ne (tgt := 51) rfl rfl dX12_beginning_44 (fun _ => ?_) (fun zc => absurd zc ho)
  refine r_iconst (v := 0) rfl dX12_beginning_51 (by decide) ?_
  refine r_istore (ls' := [some (.ref 420), some (.int (nI i)), some (.int x53), some (.int x57), some (.int 0), none, none, none, none, none]) rfl dX12_beginning_52 (Nat.le_of_ble_eq_true rfl) rfl ?_
  refine r_iconst (v := 0) rfl dX12_beginning_54 (by decide) ?_
  refine r_istore (ls' := [some (.ref 420), some (.int (nI i)), some (.int x53), some (.int x57), some (.int 0), some (.int 0), none, none, none, none]) rfl dX12_beginning_55 (Nat.le_of_ble_eq_true rfl) rfl ?_
  refine r_iload rfl dX12_beginning_57 rfl ?_
  refine r_iconst (v := 3) rfl dX12_beginning_59 (by decide) ?_
  refine r_icmp_ge (tgt := 226) rfl rfl dX12_beginning_60 (fun zc => absurd zc (by decide)) (fun _ => ?_)
  refine r_sipush (v := 160) rfl dX12_beginning_63 (by decide) ?_
  refine r_iload rfl dX12_beginning_66 rfl ?_
  refine r_imul rfl dX12_beginning_68 ?_
  refine r_eqi (y := 0) (by decide) ?_
  refine r_iconst (v := 4) rfl dX12_beginning_69 (by decide) ?_
  refine r_iload_n rfl dX12_beginning_70 rfl ?_
  refine r_imul rfl dX12_beginning_71 ?_
  refine r_eqi (y := nI (4 * i)) (show 4 * (nI i) = nI (4 * i) from pk_mul 4 i) ?_
  refine r_iadd rfl dX12_beginning_72 ?_
  refine r_eqi (y := nI (0 + (4 * i))) (show 0 + (nI (4 * i)) = nI (0 + (4 * i)) from nI_add 0 (4 * i)) ?_
  refine r_istore (ls' := [some (.ref 420), some (.int (nI i)), some (.int x53), some (.int x57), some (.int 0), some (.int 0), some (.int (nI (0 + (4 * i)))), none, none, none]) rfl dX12_beginning_73 (Nat.le_of_ble_eq_true rfl) rfl ?_
  refine r_iconst (v := 0) rfl dX12_beginning_75 (by decide) ?_
  refine r_istore (ls' := [some (.ref 420), some (.int (nI i)), some (.int x53), some (.int x57), some (.int 0), some (.int 0), some (.int (nI (0 + (4 * i)))), some (.int 0), none, none]) rfl dX12_beginning_76 (Nat.le_of_ble_eq_true rfl) rfl ?_
  rw [show 0 + (4 * i) = 4 * (i) by omega]
  refine z_bp0 (e := i) (Y := Y) (y := 0) (by omega) ?_ 4 0 h rfl hS (KM_rf (Mod := [426]) h) h5 h22 (by rw [bkR_0]; exact h26)
  intro h59 hS60 hF61 f62 f63 f64
  refine r_iconst (v := 0) rfl dX12_beginning_112 (by decide) ?_
  refine r_istore (ls' := [some (.ref 420), some (.int (nI i)), some (.int x53), some (.int x57), some (.int 0), some (.int 0), some (.int (nI (4 * (i)))), some (.int 0), none, none]) rfl dX12_beginning_113 (Nat.le_of_ble_eq_true rfl) rfl ?_
  refine r_iload rfl dX12_beginning_115 rfl ?_
  refine r_sipush (v := 256) rfl dX12_beginning_117 (by decide) ?_
  refine r_icmp_ge (tgt := 220) rfl rfl dX12_beginning_120 (fun zc => absurd zc (by decide)) (fun _ => ?_)
  refine r_iload rfl dX12_beginning_123 rfl ?_
  refine r_iload rfl dX12_beginning_125 rfl ?_
  refine r_if_eq (tgt := 134) rfl rfl dX12_beginning_127 (fun _ => ?_) (fun zc => absurd zc (by decide))
  refine r_iconst (v := 1) rfl dX12_beginning_134 (by decide) ?_
  refine r_icmp_ne (tgt := 220) rfl rfl dX12_beginning_135 (fun _ => ?_) (fun zc => absurd zc (by decide))
  refine r_iinc (y := 1) (ls' := [some (.ref 420), some (.int (nI i)), some (.int x53), some (.int x57), some (.int 0), some (.int 1), some (.int (nI (4 * (i)))), some (.int 0), none, none]) rfl dX12_beginning_220 rfl (by decide) (Nat.le_of_ble_eq_true rfl) rfl ?_
  refine r_goto (pc' := 57) rfl dX12_beginning_223 ?_
  refine r_iload rfl dX12_beginning_57 rfl ?_
  refine r_iconst (v := 3) rfl dX12_beginning_59 (by decide) ?_
  refine r_icmp_ge (tgt := 226) rfl rfl dX12_beginning_60 (fun zc => absurd zc (by decide)) (fun _ => ?_)
  refine r_sipush (v := 160) rfl dX12_beginning_63 (by decide) ?_
  refine r_iload rfl dX12_beginning_66 rfl ?_
  refine r_imul rfl dX12_beginning_68 ?_
  refine r_eqi (y := 160) (by decide) ?_
  refine r_iconst (v := 4) rfl dX12_beginning_69 (by decide) ?_
  refine r_iload_n rfl dX12_beginning_70 rfl ?_
  refine r_imul rfl dX12_beginning_71 ?_
  refine r_eqi (y := nI (4 * i)) (show 4 * (nI i) = nI (4 * i) from pk_mul 4 i) ?_
  refine r_iadd rfl dX12_beginning_72 ?_
  refine r_eqi (y := nI (160 + (4 * i))) (show 160 + (nI (4 * i)) = nI (160 + (4 * i)) from nI_add 160 (4 * i)) ?_
  refine r_istore (ls' := [some (.ref 420), some (.int (nI i)), some (.int x53), some (.int x57), some (.int 0), some (.int 1), some (.int (nI (160 + (4 * i)))), some (.int 0), none, none]) rfl dX12_beginning_73 (Nat.le_of_ble_eq_true rfl) rfl ?_
  refine r_iconst (v := 0) rfl dX12_beginning_75 (by decide) ?_
  refine r_istore (ls' := [some (.ref 420), some (.int (nI i)), some (.int x53), some (.int x57), some (.int 0), some (.int 1), some (.int (nI (160 + (4 * i)))), some (.int 0), none, none]) rfl dX12_beginning_76 (Nat.le_of_ble_eq_true rfl) rfl ?_
  rw [show 160 + (4 * i) = 4 * (40 + i) by omega]
  refine z_bp0 (e := 40 + i) (Y := bkR Y (i) (fun _ => (-1)) 4) (y := 1) (by omega) ?_ 4 0 h59 rfl hS60 hF61 f62 f63 (by rw [bkR_0]; exact f64)
  intro h65 hS66 hF67 f68 f69 f70
  refine r_iconst (v := 0) rfl dX12_beginning_112 (by decide) ?_
  refine r_istore (ls' := [some (.ref 420), some (.int (nI i)), some (.int x53), some (.int x57), some (.int 0), some (.int 1), some (.int (nI (4 * (40 + i)))), some (.int 0), none, none]) rfl dX12_beginning_113 (Nat.le_of_ble_eq_true rfl) rfl ?_
  refine z_bw0 (e := 40 + i) (Y := bkR Y (i) (fun _ => (-1)) 4) (by omega) ?_ 256 0 h65 _ rfl hS66 hF67 f68 f69 (by rw [← hnR_0]; exact f70)
  intro h71 u72 hS73 hF74 f75 f76 f77
  refine r_iinc (y := 2) (ls' := [some (.ref 420), some (.int (nI i)), some (.int x53), some (.int x57), some (.int 0), some (.int 2), some (.int (nI (4 * (40 + i)))), some (.int (nI 256)), u72, none]) rfl dX12_beginning_220 rfl (by decide) (Nat.le_of_ble_eq_true rfl) rfl ?_
  refine r_goto (pc' := 57) rfl dX12_beginning_223 ?_
  refine r_iload rfl dX12_beginning_57 rfl ?_
  refine r_iconst (v := 3) rfl dX12_beginning_59 (by decide) ?_
  refine r_icmp_ge (tgt := 226) rfl rfl dX12_beginning_60 (fun zc => absurd zc (by decide)) (fun _ => ?_)
  refine r_sipush (v := 160) rfl dX12_beginning_63 (by decide) ?_
  refine r_iload rfl dX12_beginning_66 rfl ?_
  refine r_imul rfl dX12_beginning_68 ?_
  refine r_eqi (y := 320) (by decide) ?_
  refine r_iconst (v := 4) rfl dX12_beginning_69 (by decide) ?_
  refine r_iload_n rfl dX12_beginning_70 rfl ?_
  refine r_imul rfl dX12_beginning_71 ?_
  refine r_eqi (y := nI (4 * i)) (show 4 * (nI i) = nI (4 * i) from pk_mul 4 i) ?_
  refine r_iadd rfl dX12_beginning_72 ?_
  refine r_eqi (y := nI (320 + (4 * i))) (show 320 + (nI (4 * i)) = nI (320 + (4 * i)) from nI_add 320 (4 * i)) ?_
  refine r_istore (ls' := [some (.ref 420), some (.int (nI i)), some (.int x53), some (.int x57), some (.int 0), some (.int 2), some (.int (nI (320 + (4 * i)))), some (.int (nI 256)), u72, none]) rfl dX12_beginning_73 (Nat.le_of_ble_eq_true rfl) rfl ?_
  refine r_iconst (v := 0) rfl dX12_beginning_75 (by decide) ?_
  refine r_istore (ls' := [some (.ref 420), some (.int (nI i)), some (.int x53), some (.int x57), some (.int 0), some (.int 2), some (.int (nI (320 + (4 * i)))), some (.int 0), u72, none]) rfl dX12_beginning_76 (Nat.le_of_ble_eq_true rfl) rfl ?_
  rw [show 320 + (4 * i) = 4 * (80 + i) by omega]
  refine z_bp0 (e := 80 + i) (Y := hnR (bkR Y (i) (fun _ => (-1)) 4) (40 + i) (soB x53 x57) 256) (y := 2) (by omega) ?_ 4 0 h71 rfl hS73 hF74 f75 f76 (by rw [bkR_0]; exact f77)
  intro h78 hS79 hF80 f81 f82 f83
  refine r_iconst (v := 0) rfl dX12_beginning_112 (by decide) ?_
  refine r_istore (ls' := [some (.ref 420), some (.int (nI i)), some (.int x53), some (.int x57), some (.int 0), some (.int 2), some (.int (nI (4 * (80 + i)))), some (.int 0), u72, none]) rfl dX12_beginning_113 (Nat.le_of_ble_eq_true rfl) rfl ?_
  refine r_iload rfl dX12_beginning_115 rfl ?_
  refine r_sipush (v := 256) rfl dX12_beginning_117 (by decide) ?_
  refine r_icmp_ge (tgt := 220) rfl rfl dX12_beginning_120 (fun zc => absurd zc (by decide)) (fun _ => ?_)
  refine r_iload rfl dX12_beginning_123 rfl ?_
  refine r_iload rfl dX12_beginning_125 rfl ?_
  refine r_if_eq (tgt := 134) rfl rfl dX12_beginning_127 (fun _ => ?_) (fun zc => absurd zc (by decide))
  refine r_iconst (v := 1) rfl dX12_beginning_134 (by decide) ?_
  refine r_icmp_ne (tgt := 220) rfl rfl dX12_beginning_135 (fun _ => ?_) (fun zc => absurd zc (by decide))
  refine r_iinc (y := 3) (ls' := [some (.ref 420), some (.int (nI i)), some (.int x53), some (.int x57), some (.int 0), some (.int 3), some (.int (nI (4 * (80 + i)))), some (.int 0), u72, none]) rfl dX12_beginning_220 rfl (by decide) (Nat.le_of_ble_eq_true rfl) rfl ?_
  refine r_goto (pc' := 57) rfl dX12_beginning_223 ?_
  refine r_iload rfl dX12_beginning_57 rfl ?_
  refine r_iconst (v := 3) rfl dX12_beginning_59 (by decide) ?_
  refine r_icmp_ge (tgt := 226) rfl rfl dX12_beginning_60 (fun _ => ?_) (fun zc => absurd zc (by decide))
  rw [bgY, if_neg ho]
  subst e58
  subst e54
  exact r_ret dX12_beginning_226 (rt_v rfl) ⟨rfl, hS79, hF80, f83, rfl⟩
theorem z_X12_beginning {xs : Nat → Int32} {L d : Nat} {h : ev_H} {th : Int32} {tr : Int64} {ty nx tk pl va fa ss wg : Int32} {c m : Nat} {i : Nat} {G : Nat → Int32} {Y : Nat → Int64} (hS : SH h) (h5 : h 420 = .inr (12, [.int th, .long tr, .ref 421, .int ty, .int nx, .int tk, .int pl, .int va, .int fa, .int (nI c), .int (nI m), .int ss, .int wg, .ref 422, .ref 423, .ref 424, .ref 425, .ref 426, .ref 427, .ref 428, .ref 429, .ref 430, .ref 431, .ref 432, .ref 433])) (hc : c ≤ 16) (hm : m ≤ 24) (hi : i < 40) (h22 : h 422 = cI 240 G) (h26 : h 426 = cL 480 Y) : EV xs L (d + 2) 0 0 M_X12_beginning 434 h 0 [some (.ref 420), some (.int (nI i)), none, none, none, none, none, none, none, none] [] (fun sz' h' r => sz' = 434 ∧ SH h' ∧ KM [426] h h' ∧ h' 426 = cL 480 (bgY G c Y i) ∧ r = []) := by
  by_cases ho : G (6 * i + 2) = 1
  · exact z_beg1 hS h5 hc hm hi h22 h26 ho
  · exact z_beg0 hS h5 hc hm hi h22 h26 ho
