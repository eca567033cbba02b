set_option maxRecDepth 20000 in
set_option maxHeartbeats 1000000 in
theorem s_X12_clauses_fault {xs : Nat → Int32} {L d : Nat} {h : ev_H} {th : Int32} {tr : Int64} {ty nx tk pl va cl md ss wg : Int32} {q : Nat} {x : Int32} (hS : SH h) (h5 : h 420 = c420 th tr ty nx tk pl va (nI q) cl md ss wg) (hq : q < 2 ^ 31) : EV xs L (d + 1) 0 0 M_X12_clauses 434 h 60 [some (.ref 420), some (.int x), none] [] (fun sz' h' r => sz' = 434 ∧ SH h' ∧ KM [420] h h' ∧ (h' = h ∧ r = [.int (-10 - nI q)])) := by
  refine r_aload_n rfl dX12_clauses_60 rfl ?_
  refine cl_X12_92 rfl rfl dX12_clauses_61 (show 2 ≤ 420 ∧ 420 < 434 by decide).1 (show 2 ≤ 420 ∧ 420 < 434 by decide).2 h5 (Nat.le_of_ble_eq_true rfl) (s_X12_isWell0 hS h5 (by omega)) ?_
  rintro _ h51 _ ⟨rfl, e52, rfl⟩
  replace e52 := e52.symm
  subst e52
  refine r_if_ne (tgt := 75) rfl rfl dX12_clauses_64 (fun zc => absurd zc (by decide)) (fun _ => ?_)
  refine r_bipush (v := (-10)) rfl dX12_clauses_67 (by decide) ?_
  refine r_aload_n rfl dX12_clauses_69 rfl ?_
  refine r_getv 8 rfl dX12_clauses_70 (show 2 ≤ 420 ∧ 420 < 434 by decide) h5 fl_X12_89 rfl ?_
  refine r_isub rfl dX12_clauses_73 ?_
  exact r_ret dX12_clauses_74 (rt_i rfl) ⟨rfl, hS, (KM_rf (Mod := [420]) h), rfl, rfl⟩
set_option maxRecDepth 20000 in
set_option maxHeartbeats 1000000 in
theorem s_X12_proof_fault {xs : Nat → Int32} {L d : Nat} {h : ev_H} {th : Int32} {tr : Int64} {ty nx tk pl va cl md ss wg : Int32} {q : Nat} {x : Int32} (hS : SH h) (h5 : h 420 = c420 th tr ty nx tk pl va (nI q) cl md ss wg) (hq : q < 2 ^ 31) : EV xs L (d + 1) 0 0 M_X12_proof 434 h 58 [some (.ref 420), some (.int x), none] [] (fun sz' h' r => sz' = 434 ∧ SH h' ∧ KM [420] h h' ∧ (h' = h ∧ r = [.int (-10 - nI q)])) := by
  refine r_aload_n rfl dX12_proof_58 rfl ?_
  refine cl_X12_92 rfl rfl dX12_proof_59 (show 2 ≤ 420 ∧ 420 < 434 by decide).1 (show 2 ≤ 420 ∧ 420 < 434 by decide).2 h5 (Nat.le_of_ble_eq_true rfl) (s_X12_isWell0 hS h5 (by omega)) ?_
  rintro _ h51 _ ⟨rfl, e52, rfl⟩
  replace e52 := e52.symm
  subst e52
  refine r_if_ne (tgt := 73) rfl rfl dX12_proof_62 (fun zc => absurd zc (by decide)) (fun _ => ?_)
  refine r_bipush (v := (-10)) rfl dX12_proof_65 (by decide) ?_
  refine r_aload_n rfl dX12_proof_67 rfl ?_
  refine r_getv 8 rfl dX12_proof_68 (show 2 ≤ 420 ∧ 420 < 434 by decide) h5 fl_X12_89 rfl ?_
  refine r_isub rfl dX12_proof_71 ?_
  exact r_ret dX12_proof_72 (rt_i rfl) ⟨rfl, hS, (KM_rf (Mod := [420]) h), rfl, rfl⟩
set_option maxRecDepth 20000 in
set_option maxHeartbeats 1000000 in
theorem s_X12_clauses {xs : Nat → Int32} {L d : Nat} {h : ev_H} {th : Int32} {tr : Int64} {nx tk pl va fa cl md ss wg : Int32} {f g : Nat → Int32} {n : Nat} {D A B C : Nat → Int32} (hS : SH h) (hX : TXR f g n) (h5 : h 420 = c420 th tr (nI n) nx tk pl va fa cl md ss wg) (h6 : h 421 = c421 g) (h7 : h 423 = cI 48 D) : EV xs L (d + 5) 0 0 M_X12_clauses 434 h 0 [some (.ref 420), none, none] [] (fun sz' h' r => sz' = 434 ∧ SH h' ∧ KM [420, 422, 423, 425, 426, 427, 428, 429, 430, 431] h h' ∧ (((csL f n 16 0 0 A B C).1 = -1 ∧ (csL f n 16 0 0 A B C).2.1 ≤ 16 ∧ r = [.int (nI (csL f n 16 0 0 A B C).2.1)] ∧ ∃ nx tk pl va, h' 420 = c420 0 tr 0 nx tk pl va (-1) (nI (csL f n 16 0 0 A B C).2.1) 0 0 (-9)) ∨ (∃ q, q ≤ 300 ∧ (csL f n 16 0 0 A B C).1 = nI q ∧ r = [.int (-10 - nI q)] ∧ ∃ nx tk pl va, h' 420 = c420 0 tr (nI n) nx tk pl va (nI q) cl md ss wg))) := by
  refine r_aload_n rfl dX12_clauses_0 rfl ?_
  refine r_iconst (v := 0) rfl dX12_clauses_1 (by decide) ?_
  refine e_put 0 (fs' := [.int 0, .long tr, .ref 421, .int (nI n), .int nx, .int tk, .int pl, .int va, .int fa, .int cl, .int md, .int ss, .int wg, .ref 422, .ref 423, .ref 424, .ref 425, .ref 426, .ref 427, .ref 428, .ref 429, .ref 430, .ref 431, .ref 432, .ref 433]) rfl dX12_clauses_2 (show 2 ≤ 420 ∧ 420 < 434 by decide) hS (KM_rf (Mod := [420, 422, 423, 425, 426, 427, 428, 429, 430, 431]) h) (by decide) h5 (fp_X12_57 rfl _) (Nat.le_of_ble_eq_true rfl) rfl (fun h51 hS52 hF53 hN54 f55 => ?_)
  have f56 : h51 421 = .inl (0, 300, .inl g) := (hN54 421 (by decide)).trans h6
  have f57 : h51 423 = .inl (0, 48, .inl D) := (hN54 423 (by decide)).trans h7
  refine r_iconst (v := 0) rfl dX12_clauses_5 (by decide) ?_
  refine r_istore_n (ls' := [some (.ref 420), some (.int 0), none]) rfl dX12_clauses_6 (Nat.le_of_ble_eq_true rfl) rfl ?_
  refine r_aload_n rfl dX12_clauses_7 rfl ?_
  refine cl_X12_106 rfl rfl dX12_clauses_8 (show 2 ≤ 420 ∧ 420 < 434 by decide).1 (show 2 ≤ 420 ∧ 420 < 434 by decide).2 f55 (Nat.le_of_ble_eq_true rfl) (s_X12_begins hS52 hX f55 f56) ?_
  rintro _ h58 _ ⟨rfl, hS59, hK60, ⟨w63, f61, hw64⟩, rfl⟩
  have hF62 := KM_tr hF53 (KM_sb (by decide) hK60)
  have hl65 := (rdS_le f (Nat.zero_le n)).2
  have f66 : h58 421 = .inl (0, 300, .inl g) := (hK60 421 (by decide)).trans f56
  have f67 : h58 423 = .inl (0, 48, .inl D) := (hK60 423 (by decide)).trans f57
  refine s_X12_clauses_loop (h0 := h58) (RES := (csL f n 16 0 0 A B C)) hX ?_ ?_ 16 0 0 A B C _ D h58 rfl (Nat.zero_le n) hS59 (KM_rf _) f61 hw64 f66 f67 (fun j z => absurd z (by omega)) rfl
  · intro h1 D' nx1 tk1 pl1 va1 hS1 hF1 g5 g7 hr hD hle
    refine EV.post ?_ (s_X12_clauses_tail (d := d + 2) hS1 g5 hle)
    rintro a1 a2 a3 ⟨b1, b2, b3, b4, b5⟩
    exact ⟨b1, b2, KM_tr hF62 (KM_tr (KM_sb (by decide) hF1) (KM_sb (by decide) b3)), Or.inl ⟨hr, hle, b4, _, _, _, _, b5⟩⟩
  · intro h1 x nx1 tk1 pl1 va1 q hS1 hF1 g5 hq hr
    refine EV.post ?_ (s_X12_clauses_fault (d := d + 4) hS1 g5 (by omega))
    rintro a1 a2 a3 ⟨b1, b2, b3, b4, b5⟩
    subst b4
    exact ⟨b1, b2, KM_tr hF62 (KM_sb (by decide) hF1), Or.inr ⟨q, hq, hr, b5, _, _, _, _, g5⟩⟩
theorem stS_ok {f : Nat → Int32} {n p : Nat} {z : Int32} (h : (stS f n z p).1 = true) : (tV f n (rdP f n p) < z ∧ tK f n (rdP f n p) = 4) ∧ (tV f n (rdP f n (rdP f n p)) < z ∧ tK f n (rdP f n (rdP f n p)) = 4) := by
  unfold stS at h
  split at h
  · split at h
    · rename_i h1
      split at h
      · rename_i h2
        exact ⟨h1, h2⟩
      · exact absurd (show false = true from h) (by decide)
    · exact absurd (show false = true from h) (by decide)
  · exact absurd (show false = true from h) (by decide)
/-- STEPS name LINES ahead -/
def SB (c i : Nat) (A B : Nat → Int32) : Prop := ∀ j, j < i → (∃ a : Nat, a < c + j ∧ A j = nI a) ∧ (∃ b : Nat, b < c + j ∧ B j = nI b)
theorem SB_s {c i : Nat} {A B : Nat → Int32} {a b : Nat} (h : SB c i A B) (ha : a < c + i) (hb : b < c + i) : SB c (i + 1) (upd A i (nI a)) (upd B i (nI b)) := by
  intro j hj
  by_cases e : j = i
  · subst e
    exact ⟨⟨a, ha, pk_us⟩, ⟨b, hb, pk_us⟩⟩
  · obtain ⟨⟨a', h1, h2⟩, ⟨b', h3, h4⟩⟩ := h j (by omega)
    exact ⟨⟨a', h1, (pk_un e).trans h2⟩, ⟨b', h3, (pk_un e).trans h4⟩⟩
theorem num_lt {f g : Nat → Int32} {n p k : Nat} (hX : TXR f g n) (hp : p ≤ n) (hk : k < 2 ^ 31) (h : tV f n p < nI k ∧ tK f n p = 4) : ∃ v : Nat, v < k ∧ tV f n p = nI v := by
  obtain ⟨v, hv, e⟩ := tV4 hX hp h.2
  exact ⟨v, (nI_ltI (by omega) hk).mp (by rw [← e]; exact h.1), e⟩
theorem stL_bd {f g : Nat → Int32} {n c : Nat} (hX : TXR f g n) (hc : c ≤ 16) : ∀ (r p i : Nat) (A B C : Nat → Int32), p ≤ n → i + r ≤ 24 → SB c i A B → (stL f n c r p i A B C).2.1 ≤ i + r ∧ SB c (stL f n c r p i A B C).2.1 (stL f n c r p i A B C).2.2.1 (stL f n c r p i A B C).2.2.2.1
  | 0, p, i, A, B, C, hp, hi, h => by
    rw [stL]
    exact ⟨Nat.le_refl _, h⟩
  | r + 1, p, i, A, B, C, hp, hi, h => by
    rw [stL]
    split
    · exact ⟨Nat.le_add_right _ _, h⟩
    · split
      · rename_i h1
        obtain ⟨g1, g2⟩ := stS_ok h1
        obtain ⟨v1, l1, e1⟩ := num_lt hX (rdP_le f hp) (by omega) g1
        obtain ⟨v2, l2, e2⟩ := num_lt hX (rdP_le f (rdP_le f hp)) (by omega) g2
        rw [e1, e2]
        have := stL_bd hX hc r _ (i + 1) _ _ (upd C i (tV f n (rdP f n (rdP f n (rdP f n p))))) (stS_le f (nI (c + i)) hp) (by omega) (SB_s h l1 l2)
        exact ⟨by omega, this.2⟩
      · exact ⟨Nat.le_add_right _ _, h⟩
/-- what proof's second loop leaves -/
def mpQ (h0 : ev_H) (tr : Int64) (nx tk pl va : Int32) (c t : Nat) : ev_Q := fun sz' h' r => sz' = 434 ∧ SH h' ∧ KM [420, 422, 424, 425, 426] h0 h' ∧ ∃ m', m' ≤ 24 ∧ r = [.int (nI m')] ∧ ∃ wg, h' 420 = c420 0 tr 0 nx tk pl va (-1) (nI c) (nI m') (nI t) wg
set_option maxRecDepth 20000 in
set_option maxHeartbeats 1000000 in
theorem s_X12_proof_mz {xs : Nat → Int32} {L d : Nat} {h : ev_H} {h0 : ev_H} {tr : Int64} {nx tk pl va wg : Int32} {c m t s : Nat} {E : Nat → Int32} {x : Int32} (hS : SH h) (hF : KM [420, 422, 424, 425, 426] h0 h) (h5 : h 420 = c420 0 tr 0 nx tk pl va (-1) (nI c) (nI m) (nI t) wg) (h24 : h 424 = cI 72 E) (hc : c ≤ 16) (ht : t ≤ 24) (hm : m ≤ s) (hs0 : s ≤ t) (hE : ∀ j, j < t → (∃ a : Nat, a < c + j ∧ E (3 * j) = nI a) ∧ (∃ b : Nat, b < c + j ∧ E (3 * j + 1) = nI b)) (hn : s = t) : EV xs L (d + 3) 0 0 M_X12_proof 434 h 96 [some (.ref 420), some (.int x), some (.int (nI s))] [] (mpQ h0 tr nx tk pl va c t) := by
  refine r_iload_n rfl dX12_proof_96 rfl ?_
  refine r_aload_n rfl dX12_proof_97 rfl ?_
  refine r_getv 11 rfl dX12_proof_98 (show 2 ≤ 420 ∧ 420 < 434 by decide) h5 fl_X12_118 rfl ?_
  refine r_icmp_ge (tgt := 137) rfl rfl dX12_proof_101 (fun _ => ?_) (fun zc => absurd (show nI t ≤ nI s from nI_le (a := t) (b := s) (by omega) (by omega)) zc)
  refine r_aload_n rfl dX12_proof_137 rfl ?_
  refine r_getv 10 rfl dX12_proof_138 (show 2 ≤ 420 ∧ 420 < 434 by decide) h5 fl_X12_115 rfl ?_
  exact r_ret dX12_proof_141 (rt_i rfl) ⟨rfl, hS, hF, m, by omega, rfl, _, h5⟩
set_option maxRecDepth 20000 in
set_option maxHeartbeats 1000000 in
theorem s_X12_proof_ms {xs : Nat → Int32} {L d : Nat} {h : ev_H} {h0 : ev_H} {tr : Int64} {nx tk pl va wg : Int32} {c m t s : Nat} {E : Nat → Int32} {x : Int32} (hS : SH h) (hF : KM [420, 422, 424, 425, 426] h0 h) (h5 : h 420 = c420 0 tr 0 nx tk pl va (-1) (nI c) (nI m) (nI t) wg) (h24 : h 424 = cI 72 E) (hc : c ≤ 16) (ht : t ≤ 24) (hm : m ≤ s) (hs0 : s ≤ t) (hE : ∀ j, j < t → (∃ a : Nat, a < c + j ∧ E (3 * j) = nI a) ∧ (∃ b : Nat, b < c + j ∧ E (3 * j + 1) = nI b)) (hn : s < t) (ih : ∀ (m' : Nat) (wg' : Int32) (h' : ev_H), m' ≤ s + 1 → SH h' → KM [420, 422, 424, 425, 426] h0 h' → h' 420 = c420 0 tr 0 nx tk pl va (-1) (nI c) (nI m') (nI t) wg' → h' 424 = cI 72 E → EV xs L (d + 3) 0 0 M_X12_proof 434 h' 96 [some (.ref 420), some (.int x), some (.int (nI (s + 1)))] [] (mpQ h0 tr nx tk pl va c t)) : EV xs L (d + 3) 0 0 M_X12_proof 434 h 96 [some (.ref 420), some (.int x), some (.int (nI s))] [] (mpQ h0 tr nx tk pl va c t) := by
  refine r_iload_n rfl dX12_proof_96 rfl ?_
  refine r_aload_n rfl dX12_proof_97 rfl ?_
  refine r_getv 11 rfl dX12_proof_98 (show 2 ≤ 420 ∧ 420 < 434 by decide) h5 fl_X12_118 rfl ?_
  refine r_icmp_ge (tgt := 137) rfl rfl dX12_proof_101 (fun zc => absurd zc (show ¬ nI t ≤ nI s from nI_ge (a := s) (b := t) (by omega) (by omega))) (fun _ => ?_)
  refine r_aload_n rfl dX12_proof_104 rfl ?_
  refine r_getv 12 rfl dX12_proof_105 (show 2 ≤ 420 ∧ 420 < 434 by decide) h5 fl_X12_13 rfl ?_
  refine r_bipush (v := (-9)) rfl dX12_proof_108 (by decide) ?_
  refine r_icmp_ne (tgt := 137) rfl rfl dX12_proof_110 (fun c51 => ?_) (fun c51 => ?_)
  · refine r_aload_n rfl dX12_proof_137 rfl ?_
    refine r_getv 10 rfl dX12_proof_138 (show 2 ≤ 420 ∧ 420 < 434 by decide) h5 fl_X12_115 rfl ?_
    exact r_ret dX12_proof_141 (rt_i rfl) ⟨rfl, hS, hF, m, by omega, rfl, _, h5⟩
  · refine r_aload_n rfl dX12_proof_113 rfl ?_
    refine r_aload_n rfl dX12_proof_114 rfl ?_
    refine r_iload_n rfl dX12_proof_115 rfl ?_
    obtain ⟨⟨i1, hi1, ei1⟩, ⟨j1, hj1, ej1⟩⟩ := hE s (by omega)
    refine cl_X12_150 rfl rfl dX12_proof_116 (show 2 ≤ 420 ∧ 420 < 434 by decide).1 (show 2 ≤ 420 ∧ 420 < 434 by decide).2 h5 (Nat.le_of_ble_eq_true rfl) (s_X12_makes hS h5 hc (by omega) (by omega) hm hi1 hj1 h24 ei1 ej1) ?_
    rintro _ h52 _ ⟨rfl, hS53, hK54, ⟨rfl, f56⟩ | ⟨rfl, f56⟩⟩
    · have hF55 := KM_tr hF (KM_sb (by decide) hK54)
      have f57 : h52 424 = .inl (0, 72, .inl E) := (hK54 424 (by decide)).trans h24
      refine r_if_eq (tgt := 127) rfl rfl dX12_proof_119 (fun zc => absurd zc (by decide)) (fun _ => ?_)
      refine r_bipush (v := (-9)) rfl dX12_proof_122 (by decide) ?_
      refine r_goto (pc' := 128) rfl dX12_proof_124 ?_
      refine e_put 12 (fs' := [.int 0, .long tr, .ref 421, .int 0, .int nx, .int tk, .int pl, .int va, .int (-1), .int (nI c), .int (nI (m + 1)), .int (nI t), .int (-9), .ref 422, .ref 423, .ref 424, .ref 425, .ref 426, .ref 427, .ref 428, .ref 429, .ref 430, .ref 431, .ref 432, .ref 433]) rfl dX12_proof_128 (show 2 ≤ 420 ∧ 420 < 434 by decide) hS53 hF55 (by decide) f56 (fp_X12_13 rfl _) (Nat.le_of_ble_eq_true rfl) rfl (fun h58 hS59 hF60 hN61 f62 => ?_)
      have f63 : h58 424 = .inl (0, 72, .inl E) := (hN61 424 (by decide)).trans f57
      refine r_iinc (y := nI (s + 1)) (ls' := [some (.ref 420), some (.int x), some (.int (nI (s + 1)))]) rfl dX12_proof_131 rfl (nI_1 s) (Nat.le_of_ble_eq_true rfl) rfl ?_
      refine r_goto (pc' := 96) rfl dX12_proof_134 ?_
      exact ih (m + 1) _ h58 (by omega) hS59 hF60 f62 f63
    · have hF55 := KM_tr hF (KM_sb (by decide) hK54)
      have f64 : h52 424 = .inl (0, 72, .inl E) := (hK54 424 (by decide)).trans h24
      refine r_if_eq (tgt := 127) rfl rfl dX12_proof_119 (fun _ => ?_) (fun zc => absurd zc (by decide))
      refine r_iload_n rfl dX12_proof_127 rfl ?_
      refine e_put 12 (fs' := [.int 0, .long tr, .ref 421, .int 0, .int nx, .int tk, .int pl, .int va, .int (-1), .int (nI c), .int (nI m), .int (nI t), .int (nI s), .ref 422, .ref 423, .ref 424, .ref 425, .ref 426, .ref 427, .ref 428, .ref 429, .ref 430, .ref 431, .ref 432, .ref 433]) rfl dX12_proof_128 (show 2 ≤ 420 ∧ 420 < 434 by decide) hS53 hF55 (by decide) f56 (fp_X12_13 rfl _) (Nat.le_of_ble_eq_true rfl) rfl (fun h65 hS66 hF67 hN68 f69 => ?_)
      have f70 : h65 424 = .inl (0, 72, .inl E) := (hN68 424 (by decide)).trans f64
      refine r_iinc (y := nI (s + 1)) (ls' := [some (.ref 420), some (.int x), some (.int (nI (s + 1)))]) rfl dX12_proof_131 rfl (nI_1 s) (Nat.le_of_ble_eq_true rfl) rfl ?_
      refine r_goto (pc' := 96) rfl dX12_proof_134 ?_
      exact ih m _ h65 (by omega) hS66 hF67 f69 f70
theorem s_X12_proof_make {xs : Nat → Int32} {L d : Nat} {h0 : ev_H} {tr : Int64} {nx tk pl va x : Int32} {c t : Nat} {E : Nat → Int32} (hc : c ≤ 16) (ht : t ≤ 24) (hE : ∀ j, j < t → (∃ a : Nat, a < c + j ∧ E (3 * j) = nI a) ∧ (∃ b : Nat, b < c + j ∧ E (3 * j + 1) = nI b)) : ∀ (k s m : Nat) (wg : Int32) (h : ev_H), s + k = t → m ≤ s → SH h → KM [420, 422, 424, 425, 426] h0 h → h 420 = c420 0 tr 0 nx tk pl va (-1) (nI c) (nI m) (nI t) wg → h 424 = cI 72 E → EV xs L (d + 3) 0 0 M_X12_proof 434 h 96 [some (.ref 420), some (.int x), some (.int (nI s))] [] (mpQ h0 tr nx tk pl va c t) := by
  intro k
  induction k with
  | zero => intro s m wg h hk hm hS hF h5 h24; exact s_X12_proof_mz hS hF h5 h24 hc ht hm (by omega) hE (by omega)
  | succ k ih => intro s m wg h hk hm hS hF h5 h24; exact s_X12_proof_ms hS hF h5 h24 hc ht hm (by omega) hE (by omega) (fun m' wg' h' q1 q2 q3 q4 q5 => ih (s + 1) m' wg' h' (by omega) q1 q2 q3 q4 q5)
set_option maxRecDepth 20000 in
set_option maxHeartbeats 1000000 in
theorem s_X12_proof_tail {xs : Nat → Int32} {L d : Nat} {h : ev_H} {tr : Int64} {ty nx tk pl va md ss wg : Int32} {c t : Nat} {E : Nat → Int32} (hS : SH h) (h5 : h 420 = c420 0 tr ty nx tk pl va (-1) (nI c) md ss wg) (h24 : h 424 = cI 72 E) (hc : c ≤ 16) (ht : t ≤ 24) (hE : ∀ j, j < t → (∃ a : Nat, a < c + j ∧ E (3 * j) = nI a) ∧ (∃ b : Nat, b < c + j ∧ E (3 * j + 1) = nI b)) : EV xs L (d + 3) 0 0 M_X12_proof 434 h 58 [some (.ref 420), some (.int (nI t)), none] [] (mpQ h tr nx tk pl va c t) := by
  refine r_aload_n rfl dX12_proof_58 rfl ?_
  refine cl_X12_92 rfl rfl dX12_proof_59 (show 2 ≤ 420 ∧ 420 < 434 by decide).1 (show 2 ≤ 420 ∧ 420 < 434 by decide).2 h5 (Nat.le_of_ble_eq_true rfl) (s_X12_isWell1 hS h5) ?_
  rintro _ h51 _ ⟨rfl, e52, rfl⟩
  replace e52 := e52.symm
  subst e52
  refine r_if_ne (tgt := 73) rfl rfl dX12_proof_62 (fun _ => ?_) (fun zc => absurd zc (by decide))
  refine r_aload_n rfl dX12_proof_73 rfl ?_
  refine r_iload_n rfl dX12_proof_74 rfl ?_
  refine e_put 11 (fs' := [.int 0, .long tr, .ref 421, .int ty, .int nx, .int tk, .int pl, .int va, .int (-1), .int (nI c), .int md, .int (nI t), .int wg, .ref 422, .ref 423, .ref 424, .ref 425, .ref 426, .ref 427, .ref 428, .ref 429, .ref 430, .ref 431, .ref 432, .ref 433]) rfl dX12_proof_75 (show 2 ≤ 420 ∧ 420 < 434 by decide) hS (KM_rf (Mod := [420, 422, 424, 425, 426]) h) (by decide) h5 (fp_X12_118 rfl _) (Nat.le_of_ble_eq_true rfl) rfl (fun h53 hS54 hF55 hN56 f57 => ?_)
  have f58 : h53 424 = .inl (0, 72, .inl E) := (hN56 424 (by decide)).trans h24
  refine r_aload_n rfl dX12_proof_78 rfl ?_
  refine r_iconst (v := 0) rfl dX12_proof_79 (by decide) ?_
  refine e_put 10 (fs' := [.int 0, .long tr, .ref 421, .int ty, .int nx, .int tk, .int pl, .int va, .int (-1), .int (nI c), .int 0, .int (nI t), .int wg, .ref 422, .ref 423, .ref 424, .ref 425, .ref 426, .ref 427, .ref 428, .ref 429, .ref 430, .ref 431, .ref 432, .ref 433]) rfl dX12_proof_80 (show 2 ≤ 420 ∧ 420 < 434 by decide) hS54 hF55 (by decide) f57 (fp_X12_115 rfl _) (Nat.le_of_ble_eq_true rfl) rfl (fun h59 hS60 hF61 hN62 f63 => ?_)
  have f64 : h59 424 = .inl (0, 72, .inl E) := (hN62 424 (by decide)).trans f58
  refine r_aload_n rfl dX12_proof_83 rfl ?_
  refine r_bipush (v := (-9)) rfl dX12_proof_84 (by decide) ?_
  refine e_put 12 (fs' := [.int 0, .long tr, .ref 421, .int ty, .int nx, .int tk, .int pl, .int va, .int (-1), .int (nI c), .int 0, .int (nI t), .int (-9), .ref 422, .ref 423, .ref 424, .ref 425, .ref 426, .ref 427, .ref 428, .ref 429, .ref 430, .ref 431, .ref 432, .ref 433]) rfl dX12_proof_86 (show 2 ≤ 420 ∧ 420 < 434 by decide) hS60 hF61 (by decide) f63 (fp_X12_13 rfl _) (Nat.le_of_ble_eq_true rfl) rfl (fun h65 hS66 hF67 hN68 f69 => ?_)
  have f70 : h65 424 = .inl (0, 72, .inl E) := (hN68 424 (by decide)).trans f64
  refine r_aload_n rfl dX12_proof_89 rfl ?_
  refine r_iconst (v := 0) rfl dX12_proof_90 (by decide) ?_
  refine e_put 3 (fs' := [.int 0, .long tr, .ref 421, .int 0, .int nx, .int tk, .int pl, .int va, .int (-1), .int (nI c), .int 0, .int (nI t), .int (-9), .ref 422, .ref 423, .ref 424, .ref 425, .ref 426, .ref 427, .ref 428, .ref 429, .ref 430, .ref 431, .ref 432, .ref 433]) rfl dX12_proof_91 (show 2 ≤ 420 ∧ 420 < 434 by decide) hS66 hF67 (by decide) f69 (fp_X12_64 rfl _) (Nat.le_of_ble_eq_true rfl) rfl (fun h71 hS72 hF73 hN74 f75 => ?_)
  have f76 : h71 424 = .inl (0, 72, .inl E) := (hN74 424 (by decide)).trans f70
  refine r_iconst (v := 0) rfl dX12_proof_94 (by decide) ?_
  refine r_istore_n (ls' := [some (.ref 420), some (.int (nI t)), some (.int 0)]) rfl dX12_proof_95 (Nat.le_of_ble_eq_true rfl) rfl ?_
  refine EV.post ?_ (s_X12_proof_make hc ht hE t 0 0 _ h71 (by omega) (Nat.zero_le _) hS72 hF73 f75 f76)
  exact fun _ _ _ z => z
set_option maxRecDepth 20000 in
set_option maxHeartbeats 1000000 in
theorem s_X12_proof {xs : Nat → Int32} {L d : Nat} {h : ev_H} {th : Int32} {tr : Int64} {nx tk pl va fa md ss wg : Int32} {f g : Nat → Int32} {n c : Nat} {E A B C : Nat → Int32} (hS : SH h) (hX : TXR f g n) (h5 : h 420 = c420 th tr (nI n) nx tk pl va fa (nI c) md ss wg) (h6 : h 421 = c421 g) (h7 : h 424 = cI 72 E) (hc : c ≤ 16) : EV xs L (d + 5) 0 0 M_X12_proof 434 h 0 [some (.ref 420), none, none] [] (fun sz' h' r => sz' = 434 ∧ SH h' ∧ KM [420, 422, 424, 425, 426] h h' ∧ (((stL f n c 24 0 0 A B C).1 = -1 ∧ (stL f n c 24 0 0 A B C).2.1 ≤ 24 ∧ (∃ m', m' ≤ 24 ∧ r = [.int (nI m')] ∧ ∃ nx tk pl va wg, h' 420 = c420 0 tr 0 nx tk pl va (-1) (nI c) (nI m') (nI (stL f n c 24 0 0 A B C).2.1) wg)) ∨ (∃ q, q ≤ 300 ∧ (stL f n c 24 0 0 A B C).1 = nI q ∧ r = [.int (-10 - nI q)] ∧ ∃ nx tk pl va, h' 420 = c420 0 tr (nI n) nx tk pl va (nI q) (nI c) md ss wg))) := by
  refine r_aload_n rfl dX12_proof_0 rfl ?_
  refine r_iconst (v := 0) rfl dX12_proof_1 (by decide) ?_
  refine e_put 0 (fs' := [.int 0, .long tr, .ref 421, .int (nI n), .int nx, .int tk, .int pl, .int va, .int fa, .int (nI c), .int md, .int ss, .int wg, .ref 422, .ref 423, .ref 424, .ref 425, .ref 426, .ref 427, .ref 428, .ref 429, .ref 430, .ref 431, .ref 432, .ref 433]) rfl dX12_proof_2 (show 2 ≤ 420 ∧ 420 < 434 by decide) hS (KM_rf (Mod := [420, 422, 424, 425, 426]) h) (by decide) h5 (fp_X12_57 rfl _) (Nat.le_of_ble_eq_true rfl) rfl (fun h51 hS52 hF53 hN54 f55 => ?_)
  have f56 : h51 421 = .inl (0, 300, .inl g) := (hN54 421 (by decide)).trans h6
  have f57 : h51 424 = .inl (0, 72, .inl E) := (hN54 424 (by decide)).trans h7
  refine r_iconst (v := 0) rfl dX12_proof_5 (by decide) ?_
  refine r_istore_n (ls' := [some (.ref 420), some (.int 0), none]) rfl dX12_proof_6 (Nat.le_of_ble_eq_true rfl) rfl ?_
  refine r_aload_n rfl dX12_proof_7 rfl ?_
  refine cl_X12_106 rfl rfl dX12_proof_8 (show 2 ≤ 420 ∧ 420 < 434 by decide).1 (show 2 ≤ 420 ∧ 420 < 434 by decide).2 f55 (Nat.le_of_ble_eq_true rfl) (s_X12_begins hS52 hX f55 f56) ?_
  rintro _ h58 _ ⟨rfl, hS59, hK60, ⟨w63, f61, hw64⟩, rfl⟩
  have hF62 := KM_tr hF53 (KM_sb (by decide) hK60)
  have hl65 := (rdS_le f (Nat.zero_le n)).2
  have f66 : h58 421 = .inl (0, 300, .inl g) := (hK60 421 (by decide)).trans f56
  have f67 : h58 424 = .inl (0, 72, .inl E) := (hK60 424 (by decide)).trans f57
  have hbd := stL_bd hX hc 24 0 0 A B C (Nat.zero_le n) (by decide) (fun j z => absurd z (by omega))
  refine s_X12_proof_loop (h0 := h58) (RES := (stL f n c 24 0 0 A B C)) hX ?_ ?_ 24 0 0 A B C _ E h58 rfl (Nat.zero_le n) hS59 (KM_rf _) f61 hw64 f66 f67 (fun j z => absurd z (by omega)) rfl
  · intro h1 D' nx1 tk1 pl1 va1 hS1 hF1 g5 g7 hr hD hle
    refine EV.post ?_ (s_X12_proof_tail (d := d + 2) hS1 g5 g7 hc hle (fun j hj => ?_))
    · rintro a1 a2 a3 ⟨b1, b2, b3, m', b4, b5, wg', b6⟩
      exact ⟨b1, b2, KM_tr hF62 (KM_tr (KM_sb (by decide) hF1) b3), Or.inl ⟨hr, hle, m', b4, b5, _, _, _, _, _, b6⟩⟩
    · obtain ⟨⟨a, l1, e1⟩, ⟨b, l2, e2⟩⟩ := hbd.2 j hj
      obtain ⟨d1, d2, d3⟩ := hD j hj
      exact ⟨⟨a, l1, d1.trans e1⟩, ⟨b, l2, d2.trans e2⟩⟩
  · intro h1 x nx1 tk1 pl1 va1 q hS1 hF1 g5 hq hr
    refine EV.post ?_ (s_X12_proof_fault (d := d + 4) hS1 g5 (by omega))
    rintro a1 a2 a3 ⟨b1, b2, b3, b4, b5⟩
    subst b4
    exact ⟨b1, b2, KM_tr hF62 (KM_sb (by decide) hF1), Or.inr ⟨q, hq, hr, b5, _, _, _, _, g5⟩⟩
