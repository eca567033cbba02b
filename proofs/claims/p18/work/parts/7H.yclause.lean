set_option maxRecDepth 20000 in
set_option maxHeartbeats 1000000 in
theorem lp_X12_clauses_214b {xs : Nat → Int32} {L d : Nat} {Q : ev_Q} {th : Int32} {tr : Int64} {nx tk pl va : Int32} {c : Nat} {h0 : ev_H} (h5 : h0 420 = c420 th tr 0 nx tk pl va (-1) (nI c) 0 0 (-9)) (hc : c ≤ 16) : ∀ (n k : Nat), k + n = 4 → ∀ (h : ev_H) (hS : SH h) (hF : KM [425, 426, 427, 428, 429, 430, 431] h0 h)  (hK : ∀ (h : ev_H) (hS : SH h) (hF : KM [425, 426, 427, 428, 429, 430, 431] h0 h) (kx : Int32) , EV xs L (d + 3) 0 0 M_X12_clauses 434 h 232 [some (.ref 420), some (.int (nI c)), some (.int kx)] [] Q), EV xs L (d + 3) 0 0 M_X12_clauses 434 h 214 [some (.ref 420), some (.int (nI c)), some (.int (nI k))] [] Q := by
  intro n
  induction n with
  | zero =>
    intro k hk h hS hF  hK
    refine r_iload_n rfl dX12_clauses_214 rfl ?_
    refine r_iconst (v := 4) rfl dX12_clauses_215 (by decide) ?_
    refine r_icmp_ge (tgt := 232) rfl rfl dX12_clauses_216 (fun _ => ?_) (fun zc => absurd (show 4 ≤ nI k from nI_le (a := 4) (b := k) (by omega) (by omega)) zc)
    exact hK h hS hF (nI k) 
  | succ n ih =>
    intro k hk h hS hF  hK
    refine r_iload_n rfl dX12_clauses_214 rfl ?_
    refine r_iconst (v := 4) rfl dX12_clauses_215 (by decide) ?_
    refine r_icmp_ge (tgt := 232) rfl rfl dX12_clauses_216 (fun zc => absurd zc (show ¬ 4 ≤ nI k from nI_ge (a := k) (b := 4) (by omega) (by omega))) (fun _ => ?_)
    refine r_aload_n rfl dX12_clauses_219 rfl ?_
    refine r_getv 22 rfl dX12_clauses_220 (show 2 ≤ 420 ∧ 420 < 434 by decide) ((hF 420 (by decide)).trans h5) fl_X12_45 rfl ?_
    refine r_iload_n rfl dX12_clauses_223 rfl ?_
    refine r_lconst (v := 0) rfl dX12_clauses_224 (by decide) ?_
    obtain ⟨g171, f172⟩ := hS.la LA_431
    refine m_last rfl dX12_clauses_225 (show 2 ≤ 431 ∧ 431 < 434 by decide) hS hF (by decide) f172 (vp_in_nI (n := k) (by omega) (by omega)) (fun h173 hS174 hF175 hN176 => ?_)
    refine r_iinc (y := nI (k + 1)) (ls' := [some (.ref 420), some (.int (nI c)), some (.int (nI (k + 1)))]) rfl dX12_clauses_226 rfl (nI_1 k) (Nat.le_of_ble_eq_true rfl) rfl ?_
    refine r_goto (pc' := 214) rfl dX12_clauses_229 ?_
    exact ih (k + 1) (by omega) h173 hS174 hF175  hK
set_option maxRecDepth 20000 in
set_option maxHeartbeats 1000000 in
theorem lp_X12_clauses_234b {xs : Nat → Int32} {L d : Nat} {Q : ev_Q} {th : Int32} {tr : Int64} {nx tk pl va : Int32} {c : Nat} {h0 : ev_H} (h5 : h0 420 = c420 th tr 0 nx tk pl va (-1) (nI c) 0 0 (-9)) (hc : c ≤ 16) : ∀ (n k : Nat), k + n = c → ∀ (h : ev_H) (hS : SH h) (hF : KM [425, 426, 427, 428, 429, 430, 431] h0 h)  (hK : ∀ (h : ev_H) (hS : SH h) (hF : KM [425, 426, 427, 428, 429, 430, 431] h0 h) (kx : Int32) , EV xs L (d + 3) 0 0 M_X12_clauses 434 h 258 [some (.ref 420), some (.int (nI c)), some (.int kx)] [] Q), EV xs L (d + 3) 0 0 M_X12_clauses 434 h 234 [some (.ref 420), some (.int (nI c)), some (.int (nI k))] [] Q := by
  intro n
  induction n with
  | zero =>
    intro k hk h hS hF  hK
    refine r_iload_n rfl dX12_clauses_234 rfl ?_
    refine r_aload_n rfl dX12_clauses_235 rfl ?_
    refine r_getv 9 rfl dX12_clauses_236 (show 2 ≤ 420 ∧ 420 < 434 by decide) ((hF 420 (by decide)).trans h5) fl_X12_112 rfl ?_
    refine r_icmp_ge (tgt := 258) rfl rfl dX12_clauses_239 (fun _ => ?_) (fun zc => absurd (show (nI c) ≤ nI k from nI_le (a := c) (b := k) (by omega) (by omega)) zc)
    exact hK h hS hF (nI k) 
  | succ n ih =>
    intro k hk h hS hF  hK
    refine r_iload_n rfl dX12_clauses_234 rfl ?_
    refine r_aload_n rfl dX12_clauses_235 rfl ?_
    refine r_getv 9 rfl dX12_clauses_236 (show 2 ≤ 420 ∧ 420 < 434 by decide) ((hF 420 (by decide)).trans h5) fl_X12_112 rfl ?_
    refine r_icmp_ge (tgt := 258) rfl rfl dX12_clauses_239 (fun zc => absurd zc (show ¬ (nI c) ≤ nI k from nI_ge (a := k) (b := c) (by omega) (by omega))) (fun _ => ?_)
    refine r_aload_n rfl dX12_clauses_242 rfl ?_
    refine r_iload_n rfl dX12_clauses_243 rfl ?_
    refine cl_X12_121 rfl rfl dX12_clauses_244 (show 2 ≤ 420 ∧ 420 < 434 by decide).1 (show 2 ≤ 420 ∧ 420 < 434 by decide).2 ((hF 420 (by decide)).trans h5) (Nat.le_of_ble_eq_true rfl) (s_X12_holding (i := k) (m := 0) hS ((hF 420 (by decide)).trans h5) hc (by omega) (by omega)) ?_
    rintro _ h177 _ ⟨rfl, hS178, hK179, rfl⟩
    have hF180 := KM_tr hF (KM_sb (by decide) hK179)
    refine r_aload_n rfl dX12_clauses_247 rfl ?_
    refine r_iload_n rfl dX12_clauses_248 rfl ?_
    refine cl_X12_124 rfl rfl dX12_clauses_249 (show 2 ≤ 420 ∧ 420 < 434 by decide).1 (show 2 ≤ 420 ∧ 420 < 434 by decide).2 ((hF180 420 (by decide)).trans h5) (Nat.le_of_ble_eq_true rfl) (s_X12_beginning (i := k) (m := 0) hS178 ((hF180 420 (by decide)).trans h5) hc (by omega) (by omega)) ?_
    rintro _ h181 _ ⟨rfl, hS182, hK183, rfl⟩
    have hF184 := KM_tr hF180 (KM_sb (by decide) hK183)
    refine r_iinc (y := nI (k + 1)) (ls' := [some (.ref 420), some (.int (nI c)), some (.int (nI (k + 1)))]) rfl dX12_clauses_252 rfl (nI_1 k) (Nat.le_of_ble_eq_true rfl) rfl ?_
    refine r_goto (pc' := 234) rfl dX12_clauses_255 ?_
    exact ih (k + 1) (by omega) h181 hS182 hF184  hK
set_option maxRecDepth 20000 in
set_option maxHeartbeats 1000000 in
theorem y_clauses_b {xs : Nat → Int32} {L d : Nat} {h : ev_H} {th : Int32} {tr : Int64} {ty nx tk pl va cl md ss wg : Int32} {c : Nat} {u : Option Value} (hS : SH h) (h5 : h 420 = c420 th tr ty nx tk pl va (-1) cl md ss wg) (hc : c ≤ 16) : EV xs L (d + 3) 0 0 M_X12_clauses 434 h 186 [some (.ref 420), some (.int (nI c)), u] [] (fun sz' h' r => sz' = 434 ∧ SH h' ∧ KM [420, 425, 426, 427, 428, 429, 430, 431] h h' ∧ r = [.int (nI c)] ∧ h' 420 = c420 th tr 0 nx tk pl va (-1) (nI c) 0 0 (-9)) := by
  refine r_aload_n rfl dX12_clauses_186 rfl ?_
  refine r_iload_n rfl dX12_clauses_187 rfl ?_
  refine m_put 9 (fs' := [.int th, .long tr, .ref 421, .int ty, .int nx, .int tk, .int pl, .int va, .int (-1), .int (nI c), .int md, .int ss, .int wg, .ref 422, .ref 423, .ref 424, .ref 425, .ref 426, .ref 427, .ref 428, .ref 429, .ref 430, .ref 431, .ref 432, .ref 433]) rfl dX12_clauses_188 hS (KM_rf (Mod := [420, 425, 426, 427, 428, 429, 430, 431]) h) (by decide) h5 (fp_X12_112 rfl _) (Nat.le_of_ble_eq_true rfl) rfl (fun h51 hS52 hF53 f54 => ?_)
  refine r_aload_n rfl dX12_clauses_191 rfl ?_
  refine r_iconst (v := 0) rfl dX12_clauses_192 (by decide) ?_
  refine m_put 10 (fs' := [.int th, .long tr, .ref 421, .int ty, .int nx, .int tk, .int pl, .int va, .int (-1), .int (nI c), .int 0, .int ss, .int wg, .ref 422, .ref 423, .ref 424, .ref 425, .ref 426, .ref 427, .ref 428, .ref 429, .ref 430, .ref 431, .ref 432, .ref 433]) rfl dX12_clauses_193 hS52 hF53 (by decide) f54 (fp_X12_115 rfl _) (Nat.le_of_ble_eq_true rfl) rfl (fun h55 hS56 hF57 f58 => ?_)
  refine r_aload_n rfl dX12_clauses_196 rfl ?_
  refine r_iconst (v := 0) rfl dX12_clauses_197 (by decide) ?_
  refine m_put 11 (fs' := [.int th, .long tr, .ref 421, .int ty, .int nx, .int tk, .int pl, .int va, .int (-1), .int (nI c), .int 0, .int 0, .int wg, .ref 422, .ref 423, .ref 424, .ref 425, .ref 426, .ref 427, .ref 428, .ref 429, .ref 430, .ref 431, .ref 432, .ref 433]) rfl dX12_clauses_198 hS56 hF57 (by decide) f58 (fp_X12_118 rfl _) (Nat.le_of_ble_eq_true rfl) rfl (fun h59 hS60 hF61 f62 => ?_)
  refine r_aload_n rfl dX12_clauses_201 rfl ?_
  refine r_bipush (v := (-9)) rfl dX12_clauses_202 (by decide) ?_
  refine m_put 12 (fs' := [.int th, .long tr, .ref 421, .int ty, .int nx, .int tk, .int pl, .int va, .int (-1), .int (nI c), .int 0, .int 0, .int (-9), .ref 422, .ref 423, .ref 424, .ref 425, .ref 426, .ref 427, .ref 428, .ref 429, .ref 430, .ref 431, .ref 432, .ref 433]) rfl dX12_clauses_204 hS60 hF61 (by decide) f62 (fp_X12_13 rfl _) (Nat.le_of_ble_eq_true rfl) rfl (fun h63 hS64 hF65 f66 => ?_)
  refine r_aload_n rfl dX12_clauses_207 rfl ?_
  refine r_iconst (v := 0) rfl dX12_clauses_208 (by decide) ?_
  refine m_put 3 (fs' := [.int th, .long tr, .ref 421, .int 0, .int nx, .int tk, .int pl, .int va, .int (-1), .int (nI c), .int 0, .int 0, .int (-9), .ref 422, .ref 423, .ref 424, .ref 425, .ref 426, .ref 427, .ref 428, .ref 429, .ref 430, .ref 431, .ref 432, .ref 433]) rfl dX12_clauses_209 hS64 hF65 (by decide) f66 (fp_X12_64 rfl _) (Nat.le_of_ble_eq_true rfl) rfl (fun h67 hS68 hF69 f70 => ?_)
  refine r_iconst (v := 0) rfl dX12_clauses_212 (by decide) ?_
  refine r_istore_n (ls' := [some (.ref 420), some (.int (nI c)), some (.int 0)]) rfl dX12_clauses_213 (Nat.le_of_ble_eq_true rfl) rfl ?_
  refine lp_X12_clauses_214b f70 hc (4 - 0) 0 (by omega) h67 hS68 (KM_rf _)  ?_
  intro h72 hS73 hK74 kx71 
  have hF75 := KM_tr hF69 (KM_sb (by decide) hK74)
  have f76 : h72 420 = c420 th tr 0 nx tk pl va (-1) (nI c) 0 0 (-9) := (hK74 420 (by decide)).trans f70
  refine r_iconst (v := 0) rfl dX12_clauses_232 (by decide) ?_
  refine r_istore_n (ls' := [some (.ref 420), some (.int (nI c)), some (.int 0)]) rfl dX12_clauses_233 (Nat.le_of_ble_eq_true rfl) rfl ?_
  refine lp_X12_clauses_234b f76 hc (c - 0) 0 (by omega) h72 hS73 (KM_rf _)  ?_
  intro h78 hS79 hK80 kx77 
  have hF81 := KM_tr hF75 (KM_sb (by decide) hK80)
  have f82 : h78 420 = c420 th tr 0 nx tk pl va (-1) (nI c) 0 0 (-9) := (hK80 420 (by decide)).trans f76
  refine r_aload_n rfl dX12_clauses_258 rfl ?_
  refine cl_X12_54 rfl rfl dX12_clauses_259 (show 2 ≤ 420 ∧ 420 < 434 by decide).1 (show 2 ≤ 420 ∧ 420 < 434 by decide).2 f82 (Nat.le_of_ble_eq_true rfl) (s_X12_bounds (m := 0) hS79 f82 hc (by omega)) ?_
  rintro _ h83 _ ⟨rfl, hS84, hK85, rfl⟩
  have hF86 := KM_tr hF81 (KM_sb (by decide) hK85)
  have f87 : h83 420 = c420 th tr 0 nx tk pl va (-1) (nI c) 0 0 (-9) := (hK85 420 (by decide)).trans f82
  refine r_aload_n rfl dX12_clauses_262 rfl ?_
  refine r_getv 9 rfl dX12_clauses_263 (show 2 ≤ 420 ∧ 420 < 434 by decide) f87 fl_X12_112 rfl ?_
  exact r_ret dX12_clauses_266 (rt_i rfl) ⟨rfl, hS84, hF86, rfl, f87⟩
/-- the draft as LINES' numbers -/
def dG (D : Nat → Int32) : Nat → Int32 := fun x => if x % 6 = 0 then D (3 * (x / 6)) else if x % 6 = 1 then D (3 * (x / 6) + 1) else if x % 6 = 2 then D (3 * (x / 6) + 2) else -9
theorem dG_s {D G : Nat → Int32} {k : Nat} (h : ∀ x, x < 6 * k → G x = dG D x) : ∀ x, x < 6 * (k + 1) → upd (upd (upd (upd (upd (upd G (6 * k) (D (3 * k))) (6 * k + 1) (D (3 * k + 1))) (6 * k + 2) (D (3 * k + 2))) (6 * k + 3) (-9)) (6 * k + 4) (-9)) (6 * k + 5) (-9) x = dG D x := by
  intro x hx
  by_cases h0 : x < 6 * k
  · rw [pk_un (by omega), pk_un (by omega), pk_un (by omega), pk_un (by omega), pk_un (by omega), pk_un (by omega)]
    exact h x h0
  · unfold dG
    rcases (show x = 6 * k ∨ x = 6 * k + 1 ∨ x = 6 * k + 2 ∨ x = 6 * k + 3 ∨ x = 6 * k + 4 ∨ x = 6 * k + 5 by omega) with rfl | rfl | rfl | rfl | rfl | rfl
    · rw [pk_un (by omega), pk_un (by omega), pk_un (by omega), pk_un (by omega), pk_un (by omega), pk_us, if_pos (by omega), show 6 * k / 6 = k by omega]
    · rw [pk_un (by omega), pk_un (by omega), pk_un (by omega), pk_un (by omega), pk_us, if_neg (by omega), if_pos (by omega), show (6 * k + 1) / 6 = k by omega]
    · rw [pk_un (by omega), pk_un (by omega), pk_un (by omega), pk_us, if_neg (by omega), if_neg (by omega), if_pos (by omega), show (6 * k + 2) / 6 = k by omega]
    · rw [pk_un (by omega), pk_un (by omega), pk_us, if_neg (by omega), if_neg (by omega), if_neg (by omega)]
    · rw [pk_un (by omega), pk_us, if_neg (by omega), if_neg (by omega), if_neg (by omega)]
    · rw [pk_us, if_neg (by omega), if_neg (by omega), if_neg (by omega)]
theorem dG_cl {D A B C : Nat → Int32} {c x : Nat} (hD : DR c D A B C) (hx : x < 6 * c) : dG D x = clG A B C x := by
  obtain ⟨e1, e2, e3⟩ := hD (x / 6) (by omega)
  unfold dG clG
  rw [e1, e2, e3]
set_option maxRecDepth 20000 in
set_option maxHeartbeats 1000000 in
theorem y_ca_z {xs : Nat → Int32} {L d : Nat} {h : ev_H} {h0 : ev_H} {k : Nat} {D G : Nat → Int32} {th : Int32} {tr : Int64} {ty nx tk pl va cl md ss wg : Int32} {c : Nat} (hS : SH h) (hc : c ≤ 16) (hF : KM [420, 422, 425, 426, 427, 428, 429, 430, 431] h0 h) (h5 : h 420 = c420 th tr ty nx tk pl va (-1) cl md ss wg) (h22 : h 422 = cI 240 G) (h23 : h 423 = cI 48 D) (hG : ∀ x, x < 6 * k → G x = dG D x) (hk : k = c) : EV xs L (d + 3) 0 0 M_X12_clauses 434 h 77 [some (.ref 420), some (.int (nI c)), some (.int (nI k))] [] (fun sz' h' r => sz' = 434 ∧ SH h' ∧ KM [420, 422, 425, 426, 427, 428, 429, 430, 431] h0 h' ∧ r = [.int (nI c)] ∧ h' 420 = c420 th tr 0 nx tk pl va (-1) (nI c) 0 0 (-9) ∧ ∃ G', h' 422 = cI 240 G' ∧ ∀ x, x < 6 * c → G' x = dG D x) := by
  refine r_iload_n rfl dX12_clauses_77 rfl ?_
  refine r_iload_n rfl dX12_clauses_78 rfl ?_
  refine r_icmp_ge (tgt := 186) rfl rfl dX12_clauses_79 (fun _ => ?_) (fun zc => absurd (show nI c ≤ nI k from nI_le (a := c) (b := k) (by omega) (by omega)) zc)
  refine EV.post ?_ (y_clauses_b hS h5 hc)
  rintro a1 a2 a3 ⟨b1, b2, b3, b4, b5⟩
  exact ⟨b1, b2, KM_tr hF (KM_sb (by decide) b3), b4, b5, G, (b3 422 (by decide)).trans h22, by rw [← hk]; exact hG⟩
set_option maxRecDepth 20000 in
set_option maxHeartbeats 1000000 in
theorem y_ca_s {xs : Nat → Int32} {L d : Nat} {h : ev_H} {h0 : ev_H} {k : Nat} {D G : Nat → Int32} {th : Int32} {tr : Int64} {ty nx tk pl va cl md ss wg : Int32} {c : Nat} (hS : SH h) (hc : c ≤ 16) (hF : KM [420, 422, 425, 426, 427, 428, 429, 430, 431] h0 h) (h5 : h 420 = c420 th tr ty nx tk pl va (-1) cl md ss wg) (h22 : h 422 = cI 240 G) (h23 : h 423 = cI 48 D) (hG : ∀ x, x < 6 * k → G x = dG D x) (hk : k < c) (ih : ∀ (h' : ev_H) (G' : Nat → Int32), SH h' → KM [420, 422, 425, 426, 427, 428, 429, 430, 431] h0 h' → h' 420 = c420 th tr ty nx tk pl va (-1) cl md ss wg → h' 422 = cI 240 G' → h' 423 = cI 48 D → (∀ x, x < 6 * (k + 1) → G' x = dG D x) → EV xs L (d + 3) 0 0 M_X12_clauses 434 h' 77 [some (.ref 420), some (.int (nI c)), some (.int (nI (k + 1)))] [] (fun sz' h' r => sz' = 434 ∧ SH h' ∧ KM [420, 422, 425, 426, 427, 428, 429, 430, 431] h0 h' ∧ r = [.int (nI c)] ∧ h' 420 = c420 th tr 0 nx tk pl va (-1) (nI c) 0 0 (-9) ∧ ∃ G', h' 422 = cI 240 G' ∧ ∀ x, x < 6 * c → G' x = dG D x)) : EV xs L (d + 3) 0 0 M_X12_clauses 434 h 77 [some (.ref 420), some (.int (nI c)), some (.int (nI k))] [] (fun sz' h' r => sz' = 434 ∧ SH h' ∧ KM [420, 422, 425, 426, 427, 428, 429, 430, 431] h0 h' ∧ r = [.int (nI c)] ∧ h' 420 = c420 th tr 0 nx tk pl va (-1) (nI c) 0 0 (-9) ∧ ∃ G', h' 422 = cI 240 G' ∧ ∀ x, x < 6 * c → G' x = dG D x) := by
  refine r_iload_n rfl dX12_clauses_77 rfl ?_
  refine r_iload_n rfl dX12_clauses_78 rfl ?_
  refine r_icmp_ge (tgt := 186) rfl rfl dX12_clauses_79 (fun zc => absurd zc (show ¬ nI c ≤ nI k from nI_ge (a := k) (b := c) (by omega) (by omega))) (fun _ => ?_)
  refine r_aload_n rfl dX12_clauses_82 rfl ?_
  refine r_getv 13 rfl dX12_clauses_83 (show 2 ≤ 420 ∧ 420 < 434 by decide) h5 fl_X12_17 rfl ?_
  refine r_bipush (v := 6) rfl dX12_clauses_86 (by decide) ?_
  refine r_iload_n rfl dX12_clauses_88 rfl ?_
  refine r_imul rfl dX12_clauses_89 ?_
  refine r_eqi (y := nI (6 * k)) (show 6 * (nI k) = nI (6 * k) from pk_mul 6 k) ?_
  refine r_aload_n rfl dX12_clauses_90 rfl ?_
  refine r_getv 14 rfl dX12_clauses_91 (show 2 ≤ 420 ∧ 420 < 434 by decide) h5 fl_X12_20 rfl ?_
  refine r_iconst (v := 3) rfl dX12_clauses_94 (by decide) ?_
  refine r_iload_n rfl dX12_clauses_95 rfl ?_
  refine r_imul rfl dX12_clauses_96 ?_
  refine r_eqi (y := nI (3 * k)) (show 3 * (nI k) = nI (3 * k) from pk_mul 3 k) ?_
  refine r_ialdv (jn := 3 * k) (v := D (3 * k)) rfl dX12_clauses_97 (show 2 ≤ 423 ∧ 423 < 434 by decide) h23 (vp_in_nI (n := 3 * k) (by omega) (by decide)) (nI_clamp (n := 3 * k) (by omega)) rfl ?_
  refine e_iast (jn := 6 * k) rfl dX12_clauses_98 (show 2 ≤ 422 ∧ 422 < 434 by decide) hS hF (by decide) h22 (vp_in_nI (n := 6 * k) (by omega) (by decide)) (nI_clamp (n := 6 * k) (by omega)) (fun h51 hS52 hF53 hN54 f55 => ?_)
  have f56 : h51 420 = .inr (12, [.int th, .long tr, .ref 421, .int ty, .int nx, .int tk, .int pl, .int va, .int (-1), .int cl, .int md, .int ss, .int wg, .ref 422, .ref 423, .ref 424, .ref 425, .ref 426, .ref 427, .ref 428, .ref 429, .ref 430, .ref 431, .ref 432, .ref 433]) := (hN54 420 (by decide)).trans h5
  have f57 : h51 423 = .inl (0, 48, .inl D) := (hN54 423 (by decide)).trans h23
  refine r_aload_n rfl dX12_clauses_99 rfl ?_
  refine r_getv 13 rfl dX12_clauses_100 (show 2 ≤ 420 ∧ 420 < 434 by decide) f56 fl_X12_17 rfl ?_
  refine r_bipush (v := 6) rfl dX12_clauses_103 (by decide) ?_
  refine r_iload_n rfl dX12_clauses_105 rfl ?_
  refine r_imul rfl dX12_clauses_106 ?_
  refine r_eqi (y := nI (6 * k)) (show 6 * (nI k) = nI (6 * k) from pk_mul 6 k) ?_
  refine r_iconst (v := 1) rfl dX12_clauses_107 (by decide) ?_
  refine r_iadd rfl dX12_clauses_108 ?_
  refine r_eqi (y := nI ((6 * k) + 1)) (show (nI (6 * k)) + 1 = nI ((6 * k) + 1) from nI_add (6 * k) 1) ?_
  refine r_aload_n rfl dX12_clauses_109 rfl ?_
  refine r_getv 14 rfl dX12_clauses_110 (show 2 ≤ 420 ∧ 420 < 434 by decide) f56 fl_X12_20 rfl ?_
  refine r_iconst (v := 3) rfl dX12_clauses_113 (by decide) ?_
  refine r_iload_n rfl dX12_clauses_114 rfl ?_
  refine r_imul rfl dX12_clauses_115 ?_
  refine r_eqi (y := nI (3 * k)) (show 3 * (nI k) = nI (3 * k) from pk_mul 3 k) ?_
  refine r_iconst (v := 1) rfl dX12_clauses_116 (by decide) ?_
  refine r_iadd rfl dX12_clauses_117 ?_
  refine r_eqi (y := nI ((3 * k) + 1)) (show (nI (3 * k)) + 1 = nI ((3 * k) + 1) from nI_add (3 * k) 1) ?_
  refine r_ialdv (jn := (3 * k) + 1) (v := D ((3 * k) + 1)) rfl dX12_clauses_118 (show 2 ≤ 423 ∧ 423 < 434 by decide) f57 (vp_in_nI (n := (3 * k) + 1) (by omega) (by decide)) (nI_clamp (n := (3 * k) + 1) (by omega)) rfl ?_
  refine e_iast (jn := (6 * k) + 1) rfl dX12_clauses_119 (show 2 ≤ 422 ∧ 422 < 434 by decide) hS52 hF53 (by decide) f55 (vp_in_nI (n := (6 * k) + 1) (by omega) (by decide)) (nI_clamp (n := (6 * k) + 1) (by omega)) (fun h58 hS59 hF60 hN61 f62 => ?_)
  have f63 : h58 420 = .inr (12, [.int th, .long tr, .ref 421, .int ty, .int nx, .int tk, .int pl, .int va, .int (-1), .int cl, .int md, .int ss, .int wg, .ref 422, .ref 423, .ref 424, .ref 425, .ref 426, .ref 427, .ref 428, .ref 429, .ref 430, .ref 431, .ref 432, .ref 433]) := (hN61 420 (by decide)).trans f56
  have f64 : h58 423 = .inl (0, 48, .inl D) := (hN61 423 (by decide)).trans f57
  refine r_aload_n rfl dX12_clauses_120 rfl ?_
  refine r_getv 13 rfl dX12_clauses_121 (show 2 ≤ 420 ∧ 420 < 434 by decide) f63 fl_X12_17 rfl ?_
  refine r_bipush (v := 6) rfl dX12_clauses_124 (by decide) ?_
  refine r_iload_n rfl dX12_clauses_126 rfl ?_
  refine r_imul rfl dX12_clauses_127 ?_
  refine r_eqi (y := nI (6 * k)) (show 6 * (nI k) = nI (6 * k) from pk_mul 6 k) ?_
  refine r_iconst (v := 2) rfl dX12_clauses_128 (by decide) ?_
  refine r_iadd rfl dX12_clauses_129 ?_
  refine r_eqi (y := nI ((6 * k) + 2)) (show (nI (6 * k)) + 2 = nI ((6 * k) + 2) from nI_add (6 * k) 2) ?_
  refine r_aload_n rfl dX12_clauses_130 rfl ?_
  refine r_getv 14 rfl dX12_clauses_131 (show 2 ≤ 420 ∧ 420 < 434 by decide) f63 fl_X12_20 rfl ?_
  refine r_iconst (v := 3) rfl dX12_clauses_134 (by decide) ?_
  refine r_iload_n rfl dX12_clauses_135 rfl ?_
  refine r_imul rfl dX12_clauses_136 ?_
  refine r_eqi (y := nI (3 * k)) (show 3 * (nI k) = nI (3 * k) from pk_mul 3 k) ?_
  refine r_iconst (v := 2) rfl dX12_clauses_137 (by decide) ?_
  refine r_iadd rfl dX12_clauses_138 ?_
  refine r_eqi (y := nI ((3 * k) + 2)) (show (nI (3 * k)) + 2 = nI ((3 * k) + 2) from nI_add (3 * k) 2) ?_
  refine r_ialdv (jn := (3 * k) + 2) (v := D ((3 * k) + 2)) rfl dX12_clauses_139 (show 2 ≤ 423 ∧ 423 < 434 by decide) f64 (vp_in_nI (n := (3 * k) + 2) (by omega) (by decide)) (nI_clamp (n := (3 * k) + 2) (by omega)) rfl ?_
  refine e_iast (jn := (6 * k) + 2) rfl dX12_clauses_140 (show 2 ≤ 422 ∧ 422 < 434 by decide) hS59 hF60 (by decide) f62 (vp_in_nI (n := (6 * k) + 2) (by omega) (by decide)) (nI_clamp (n := (6 * k) + 2) (by omega)) (fun h65 hS66 hF67 hN68 f69 => ?_)
  have f70 : h65 420 = .inr (12, [.int th, .long tr, .ref 421, .int ty, .int nx, .int tk, .int pl, .int va, .int (-1), .int cl, .int md, .int ss, .int wg, .ref 422, .ref 423, .ref 424, .ref 425, .ref 426, .ref 427, .ref 428, .ref 429, .ref 430, .ref 431, .ref 432, .ref 433]) := (hN68 420 (by decide)).trans f63
  have f71 : h65 423 = .inl (0, 48, .inl D) := (hN68 423 (by decide)).trans f64
  refine r_aload_n rfl dX12_clauses_141 rfl ?_
  refine r_getv 13 rfl dX12_clauses_142 (show 2 ≤ 420 ∧ 420 < 434 by decide) f70 fl_X12_17 rfl ?_
  refine r_bipush (v := 6) rfl dX12_clauses_145 (by decide) ?_
  refine r_iload_n rfl dX12_clauses_147 rfl ?_
  refine r_imul rfl dX12_clauses_148 ?_
  refine r_eqi (y := nI (6 * k)) (show 6 * (nI k) = nI (6 * k) from pk_mul 6 k) ?_
  refine r_iconst (v := 3) rfl dX12_clauses_149 (by decide) ?_
  refine r_iadd rfl dX12_clauses_150 ?_
  refine r_eqi (y := nI ((6 * k) + 3)) (show (nI (6 * k)) + 3 = nI ((6 * k) + 3) from nI_add (6 * k) 3) ?_
  refine r_bipush (v := (-9)) rfl dX12_clauses_151 (by decide) ?_
  refine e_iast (jn := (6 * k) + 3) rfl dX12_clauses_153 (show 2 ≤ 422 ∧ 422 < 434 by decide) hS66 hF67 (by decide) f69 (vp_in_nI (n := (6 * k) + 3) (by omega) (by decide)) (nI_clamp (n := (6 * k) + 3) (by omega)) (fun h72 hS73 hF74 hN75 f76 => ?_)
  have f77 : h72 420 = .inr (12, [.int th, .long tr, .ref 421, .int ty, .int nx, .int tk, .int pl, .int va, .int (-1), .int cl, .int md, .int ss, .int wg, .ref 422, .ref 423, .ref 424, .ref 425, .ref 426, .ref 427, .ref 428, .ref 429, .ref 430, .ref 431, .ref 432, .ref 433]) := (hN75 420 (by decide)).trans f70
  have f78 : h72 423 = .inl (0, 48, .inl D) := (hN75 423 (by decide)).trans f71
  refine r_aload_n rfl dX12_clauses_154 rfl ?_
  refine r_getv 13 rfl dX12_clauses_155 (show 2 ≤ 420 ∧ 420 < 434 by decide) f77 fl_X12_17 rfl ?_
  refine r_bipush (v := 6) rfl dX12_clauses_158 (by decide) ?_
  refine r_iload_n rfl dX12_clauses_160 rfl ?_
  refine r_imul rfl dX12_clauses_161 ?_
  refine r_eqi (y := nI (6 * k)) (show 6 * (nI k) = nI (6 * k) from pk_mul 6 k) ?_
  refine r_iconst (v := 4) rfl dX12_clauses_162 (by decide) ?_
  refine r_iadd rfl dX12_clauses_163 ?_
  refine r_eqi (y := nI ((6 * k) + 4)) (show (nI (6 * k)) + 4 = nI ((6 * k) + 4) from nI_add (6 * k) 4) ?_
  refine r_bipush (v := (-9)) rfl dX12_clauses_164 (by decide) ?_
  refine e_iast (jn := (6 * k) + 4) rfl dX12_clauses_166 (show 2 ≤ 422 ∧ 422 < 434 by decide) hS73 hF74 (by decide) f76 (vp_in_nI (n := (6 * k) + 4) (by omega) (by decide)) (nI_clamp (n := (6 * k) + 4) (by omega)) (fun h79 hS80 hF81 hN82 f83 => ?_)
  have f84 : h79 420 = .inr (12, [.int th, .long tr, .ref 421, .int ty, .int nx, .int tk, .int pl, .int va, .int (-1), .int cl, .int md, .int ss, .int wg, .ref 422, .ref 423, .ref 424, .ref 425, .ref 426, .ref 427, .ref 428, .ref 429, .ref 430, .ref 431, .ref 432, .ref 433]) := (hN82 420 (by decide)).trans f77
  have f85 : h79 423 = .inl (0, 48, .inl D) := (hN82 423 (by decide)).trans f78
  refine r_aload_n rfl dX12_clauses_167 rfl ?_
  refine r_getv 13 rfl dX12_clauses_168 (show 2 ≤ 420 ∧ 420 < 434 by decide) f84 fl_X12_17 rfl ?_
  refine r_bipush (v := 6) rfl dX12_clauses_171 (by decide) ?_
  refine r_iload_n rfl dX12_clauses_173 rfl ?_
  refine r_imul rfl dX12_clauses_174 ?_
  refine r_eqi (y := nI (6 * k)) (show 6 * (nI k) = nI (6 * k) from pk_mul 6 k) ?_
  refine r_iconst (v := 5) rfl dX12_clauses_175 (by decide) ?_
  refine r_iadd rfl dX12_clauses_176 ?_
  refine r_eqi (y := nI ((6 * k) + 5)) (show (nI (6 * k)) + 5 = nI ((6 * k) + 5) from nI_add (6 * k) 5) ?_
  refine r_bipush (v := (-9)) rfl dX12_clauses_177 (by decide) ?_
  refine e_iast (jn := (6 * k) + 5) rfl dX12_clauses_179 (show 2 ≤ 422 ∧ 422 < 434 by decide) hS80 hF81 (by decide) f83 (vp_in_nI (n := (6 * k) + 5) (by omega) (by decide)) (nI_clamp (n := (6 * k) + 5) (by omega)) (fun h86 hS87 hF88 hN89 f90 => ?_)
  have f91 : h86 420 = .inr (12, [.int th, .long tr, .ref 421, .int ty, .int nx, .int tk, .int pl, .int va, .int (-1), .int cl, .int md, .int ss, .int wg, .ref 422, .ref 423, .ref 424, .ref 425, .ref 426, .ref 427, .ref 428, .ref 429, .ref 430, .ref 431, .ref 432, .ref 433]) := (hN89 420 (by decide)).trans f84
  have f92 : h86 423 = .inl (0, 48, .inl D) := (hN89 423 (by decide)).trans f85
  refine r_iinc (y := nI (k + 1)) (ls' := [some (.ref 420), some (.int (nI c)), some (.int (nI (k + 1)))]) rfl dX12_clauses_180 rfl (nI_1 k) (Nat.le_of_ble_eq_true rfl) rfl ?_
  refine r_goto (pc' := 77) rfl dX12_clauses_183 ?_
  exact ih h86 _ hS87 hF88 f91 f90 f92 (dG_s hG)
theorem y_ca {xs : Nat → Int32} {L d : Nat} {h0 : ev_H} {D : Nat → Int32} {th : Int32} {tr : Int64} {ty nx tk pl va cl md ss wg : Int32} {c : Nat} (hc : c ≤ 16) : ∀ (n k : Nat) (h : ev_H) (G : Nat → Int32), k + n = c → SH h → KM [420, 422, 425, 426, 427, 428, 429, 430, 431] h0 h → h 420 = c420 th tr ty nx tk pl va (-1) cl md ss wg → h 422 = cI 240 G → h 423 = cI 48 D → (∀ x, x < 6 * k → G x = dG D x) → EV xs L (d + 3) 0 0 M_X12_clauses 434 h 77 [some (.ref 420), some (.int (nI c)), some (.int (nI k))] [] (fun sz' h' r => sz' = 434 ∧ SH h' ∧ KM [420, 422, 425, 426, 427, 428, 429, 430, 431] h0 h' ∧ r = [.int (nI c)] ∧ h' 420 = c420 th tr 0 nx tk pl va (-1) (nI c) 0 0 (-9) ∧ ∃ G', h' 422 = cI 240 G' ∧ ∀ x, x < 6 * c → G' x = dG D x) := by
  intro n
  induction n with
  | zero => intro k h G hk hS hF h5 h22 h23 hG; exact y_ca_z hS hc hF h5 h22 h23 hG (by omega)
  | succ n ih => intro k h G hk hS hF h5 h22 h23 hG; exact y_ca_s hS hc hF h5 h22 h23 hG (by omega) (fun h' G' q1 q2 q3 q4 q5 q6 => ih (k + 1) h' G' (by omega) q1 q2 q3 q4 q5 q6)
set_option maxRecDepth 20000 in
set_option maxHeartbeats 1000000 in
theorem y_clauses_t {xs : Nat → Int32} {L d : Nat} {h : ev_H} {D G : Nat → Int32} {th : Int32} {tr : Int64} {ty nx tk pl va cl md ss wg : Int32} {c : Nat} (hS : SH h) (hc : c ≤ 16) (h5 : h 420 = c420 th tr ty nx tk pl va (-1) cl md ss wg) (h22 : h 422 = cI 240 G) (h23 : h 423 = cI 48 D) : EV xs L (d + 3) 0 0 M_X12_clauses 434 h 60 [some (.ref 420), some (.int (nI c)), none] [] (fun sz' h' r => sz' = 434 ∧ SH h' ∧ KM [420, 422, 425, 426, 427, 428, 429, 430, 431] h h' ∧ r = [.int (nI c)] ∧ h' 420 = c420 th tr 0 nx tk pl va (-1) (nI c) 0 0 (-9) ∧ ∃ G', h' 422 = cI 240 G' ∧ ∀ x, x < 6 * c → G' x = dG D x) := by
  refine r_aload_n rfl dX12_clauses_60 rfl ?_
  refine cl_X12_92 rfl rfl dX12_clauses_61 (show 2 ≤ 420 ∧ 420 < 434 by decide).1 (show 2 ≤ 420 ∧ 420 < 434 by decide).2 h5 (Nat.le_of_ble_eq_true rfl) (s_X12_isWell1 hS h5) ?_
  rintro _ h51 _ ⟨rfl, e52, rfl⟩
  replace e52 := e52.symm
  subst e52
  refine r_if_ne (tgt := 75) rfl rfl dX12_clauses_64 (fun _ => ?_) (fun zc => absurd zc (by decide))
  refine r_iconst (v := 0) rfl dX12_clauses_75 (by decide) ?_
  refine r_istore_n (ls' := [some (.ref 420), some (.int (nI c)), some (.int 0)]) rfl dX12_clauses_76 (Nat.le_of_ble_eq_true rfl) rfl ?_
  exact y_ca hc c 0 h G (by omega) hS (KM_rf (Mod := [420, 422, 425, 426, 427, 428, 429, 430, 431]) h) h5 h22 h23 (fun x hx => absurd hx (by omega))
set_option maxRecDepth 20000 in
set_option maxHeartbeats 1000000 in
theorem y_X12_clauses {xs : Nat → Int32} {L d : Nat} {h : ev_H} {th : Int32} {tr : Int64} {nx tk pl va fa cl md ss wg : Int32} {f g : Nat → Int32} {n : Nat} {D G A B C : Nat → Int32} (hS : SH h) (hX : TXR f g n) (h5 : h 420 = c420 th tr (nI n) nx tk pl va fa cl md ss wg) (h6 : h 421 = c421 g) (h22 : h 422 = cI 240 G) (h7 : h 423 = cI 48 D) : EV xs L (d + 5) 0 0 M_X12_clauses 434 h 0 [some (.ref 420), none, none] [] (fun sz' h' r => sz' = 434 ∧ SH h' ∧ KM [420, 422, 423, 425, 426, 427, 428, 429, 430, 431] h h' ∧ (((csL f n 16 0 0 A B C).1 = -1 ∧ (csL f n 16 0 0 A B C).2.1 ≤ 16 ∧ r = [.int (nI (csL f n 16 0 0 A B C).2.1)] ∧ (∃ nx tk pl va, h' 420 = c420 0 tr 0 nx tk pl va (-1) (nI (csL f n 16 0 0 A B C).2.1) 0 0 (-9)) ∧ ∃ G', h' 422 = cI 240 G' ∧ ∀ x, x < 6 * (csL f n 16 0 0 A B C).2.1 → G' x = clG (csL f n 16 0 0 A B C).2.2.1 (csL f n 16 0 0 A B C).2.2.2.1 (csL f n 16 0 0 A B C).2.2.2.2 x) ∨ (∃ q, q ≤ 300 ∧ (csL f n 16 0 0 A B C).1 = nI q ∧ r = [.int (-10 - nI q)] ∧ (∃ nx tk pl va, h' 420 = c420 0 tr (nI n) nx tk pl va (nI q) cl md ss wg) ∧ h' 422 = cI 240 G))) := by
  refine r_aload_n rfl dX12_clauses_0 rfl ?_
  refine r_iconst (v := 0) rfl dX12_clauses_1 (by decide) ?_
  refine e_put 0 (fs' := [.int 0, .long tr, .ref 421, .int (nI n), .int nx, .int tk, .int pl, .int va, .int fa, .int cl, .int md, .int ss, .int wg, .ref 422, .ref 423, .ref 424, .ref 425, .ref 426, .ref 427, .ref 428, .ref 429, .ref 430, .ref 431, .ref 432, .ref 433]) rfl dX12_clauses_2 (show 2 ≤ 420 ∧ 420 < 434 by decide) hS (KM_rf (Mod := [420, 422, 423, 425, 426, 427, 428, 429, 430, 431]) h) (by decide) h5 (fp_X12_57 rfl _) (Nat.le_of_ble_eq_true rfl) rfl (fun h51 hS52 hF53 hN54 f55 => ?_)
  have f56 : h51 421 = .inl (0, 300, .inl g) := (hN54 421 (by decide)).trans h6
  have f57 : h51 422 = .inl (0, 240, .inl G) := (hN54 422 (by decide)).trans h22
  have f58 : h51 423 = .inl (0, 48, .inl D) := (hN54 423 (by decide)).trans h7
  refine r_iconst (v := 0) rfl dX12_clauses_5 (by decide) ?_
  refine r_istore_n (ls' := [some (.ref 420), some (.int 0), none]) rfl dX12_clauses_6 (Nat.le_of_ble_eq_true rfl) rfl ?_
  refine r_aload_n rfl dX12_clauses_7 rfl ?_
  refine cl_X12_106 rfl rfl dX12_clauses_8 (show 2 ≤ 420 ∧ 420 < 434 by decide).1 (show 2 ≤ 420 ∧ 420 < 434 by decide).2 f55 (Nat.le_of_ble_eq_true rfl) (s_X12_begins hS52 hX f55 f56) ?_
  rintro _ h59 _ ⟨rfl, hS60, hK61, ⟨w64, f62, hw65⟩, rfl⟩
  have hF63 := KM_tr hF53 (KM_sb (by decide) hK61)
  have hl66 := (rdS_le f (Nat.zero_le n)).2
  have f67 : h59 421 = .inl (0, 300, .inl g) := (hK61 421 (by decide)).trans f56
  have f68 : h59 422 = .inl (0, 240, .inl G) := (hK61 422 (by decide)).trans f57
  have f69 : h59 423 = .inl (0, 48, .inl D) := (hK61 423 (by decide)).trans f58
  refine s_X12_clauses_loop (h0 := h59) (RES := (csL f n 16 0 0 A B C)) hX ?_ ?_ 16 0 0 A B C _ D h59 rfl (Nat.zero_le n) hS60 (KM_rf _) f62 hw65 f67 f69 (fun j z => absurd z (by omega)) rfl
  · intro h1 D' nx1 tk1 pl1 va1 hS1 hF1 g5 g7 hr hD hle
    refine EV.post ?_ (y_clauses_t (d := d + 2) hS1 hle g5 ((hF1 422 (by decide)).trans f68) g7)
    rintro a1 a2 a3 ⟨b1, b2, b3, b4, b5, G', b6, b7⟩
    exact ⟨b1, b2, KM_tr hF63 (KM_tr (KM_sb (by decide) hF1) (KM_sb (by decide) b3)), Or.inl ⟨hr, hle, b4, ⟨_, _, _, _, b5⟩, G', b6, fun x hx => (b7 x hx).trans (dG_cl hD hx)⟩⟩
  · intro h1 x nx1 tk1 pl1 va1 q hS1 hF1 g5 hq hr
    refine EV.post ?_ (s_X12_clauses_fault (d := d + 4) hS1 g5 (by omega))
    rintro a1 a2 a3 ⟨b1, b2, b3, b4, b5⟩
    subst b4
    exact ⟨b1, b2, KM_tr hF63 (KM_sb (by decide) hF1), Or.inr ⟨q, hq, hr, b5, ⟨_, _, _, _, g5⟩, (hF1 422 (by decide)).trans f68⟩⟩
