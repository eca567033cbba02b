set_option maxRecDepth 20000 in
set_option maxHeartbeats 1000000 in
theorem x_X11_wrong {xs : Nat → Int32} {L d : Nat} {h : ev_H} {k : Nat} {cc sc wr el : Int32} (hS : SH h) (h2 : h 2 = c2 cc (nI k) sc wr el) (hk : k ≤ 40) : EV xs L (d + 0) 0 0 M_X11_wrong 434 h 0 [some (.ref 2)] [] (fun sz' h' r => sz' = 434 ∧ h' = h ∧ r = [.int wr]) := by
  refine r_aload_n rfl dX11_wrong_0 rfl ?_
  refine r_getv 14 rfl dX11_wrong_1 (show 2 ≤ 2 ∧ 2 < 434 by decide) h2 fl_X11_82 rfl ?_
  exact r_ret dX11_wrong_4 (rt_i rfl) ⟨rfl, rfl, rfl⟩
set_option maxRecDepth 20000 in
set_option maxHeartbeats 1000000 in
theorem x_X11_end {xs : Nat → Int32} {L d : Nat} {h : ev_H} {k : Nat} {cc sc wr el : Int32} (hS : SH h) (h2 : h 2 = c2 cc (nI k) sc wr el) (hk : k ≤ 40) : EV xs L (d + 0) 0 0 M_X11_end 434 h 0 [some (.ref 2)] [] (fun sz' h' r => sz' = 434 ∧ h' = h ∧ r = [.int el]) := by
  refine r_aload_n rfl dX11_end_0 rfl ?_
  refine r_getv 15 rfl dX11_end_1 (show 2 ≤ 2 ∧ 2 < 434 by decide) h2 fl_X11_86 rfl ?_
  exact r_ret dX11_end_4 (rt_i rfl) ⟨rfl, rfl, rfl⟩
set_option maxRecDepth 20000 in
set_option maxHeartbeats 1000000 in
theorem x_X11_line {xs : Nat → Int32} {L d : Nat} {h : ev_H} {k : Nat} {cc sc wr el : Int32} {G : Nat → Int32} {x y : Int32} (hS : SH h) (h2 : h 2 = c2 cc (nI k) sc wr el) (hk : k ≤ 40) (hck : k ≤ 40) (hLN : LN k G h) : EV xs L (d + 2) 0 0 M_X11_line 434 h 0 [some (.ref 2), some (.int x), some (.int y), none] [] (fun sz' h' r => sz' = 434 ∧ h' = h ∧ ((∃ n : Nat, n < k ∧ x = nI n ∧ r = [.int (lpr (G (6 * n)) (G (6 * n + 1)) (G (6 * n + 2)) (G (6 * n + 3)) (G (6 * n + 4)) (G (6 * n + 5)) y)]) ∨ ((∀ n : Nat, n < k → ¬ x = nI n) ∧ r = [.int (-1)]))) := by
  refine r_aload_n rfl dX11_line_0 rfl ?_
  refine r_iload_n rfl dX11_line_1 rfl ?_
  refine cl_X11_121 rfl rfl dX11_line_2 (show 2 ≤ 2 ∧ 2 < 434 by decide).1 (show 2 ≤ 2 ∧ 2 < 434 by decide).2 h2 (Nat.le_of_ble_eq_true rfl) (x_X11_lineAt hS h2 hk) ?_
  rintro _ h51 _ ⟨rfl, e52, ⟨n53, hn54, ex55, rfl⟩ | ⟨hno56, rfl⟩⟩
  · replace e52 := e52.symm
    subst e52
    subst ex55
    refine r_astore_n (ls' := [some (.ref 2), some (.int (nI n53)), some (.int y), some (.ref (100 + 8 * n53))]) rfl dX11_line_5 (Nat.le_of_ble_eq_true rfl) rfl ?_
    refine r_aload_n rfl dX11_line_6 rfl ?_
    refine r_ifnonnull (tgt := 14) rfl dX11_line_7 ?_
    refine r_aload_n rfl dX11_line_14 rfl ?_
    refine r_iload_n rfl dX11_line_15 rfl ?_
    refine cl_X11_125 rfl rfl dX11_line_16 (show 2 ≤ 100 + 8 * n53 ∧ 100 + 8 * n53 < 434 by omega).1 (show 2 ≤ 100 + 8 * n53 ∧ 100 + 8 * n53 < 434 by omega).2 (hLN n53 (by omega)) (Nat.le_of_ble_eq_true rfl) (x_X3_property hS (i := n53) (by omega) (hLN n53 (by omega))) ?_
    rintro _ h57 _ ⟨rfl, e58, rfl⟩
    replace e58 := e58.symm
    subst e58
    exact r_ret dX11_line_19 (rt_i rfl) ⟨rfl, rfl, Or.inl ⟨n53, hn54, rfl, rfl⟩⟩
  · replace e52 := e52.symm
    subst e52
    refine r_astore_nN (ls' := [some (.ref 2), some (.int x), some (.int y), some (.null)]) rfl dX11_line_5 (Nat.le_of_ble_eq_true rfl) rfl ?_
    refine r_aload_nN rfl dX11_line_6 rfl ?_
    refine r_ifnonnullN rfl (by decide) dX11_line_7 ?_
    refine r_iconst (v := (-1)) rfl dX11_line_10 (by decide) ?_
    refine r_goto (pc' := 19) rfl dX11_line_11 ?_
    exact r_ret dX11_line_19 (rt_i rfl) ⟨rfl, rfl, Or.inr ⟨hno56, rfl⟩⟩
def sdF (lo lt x : Int32) : Int32 := if x < 0 then -1 else if 8 ≤ x then -1 else 1 * ((lo >>> (x &&& 31)) &&& 1) + 2 * ((lt >>> (x &&& 31)) &&& 1)
set_option maxRecDepth 20000 in
set_option maxHeartbeats 1000000 in
theorem x_X11_side {xs : Nat → Int32} {L d : Nat} {h : ev_H} {k : Nat} {cc sc wr el : Int32} {x lo lt fk fs : Int32} (hS : SH h) (h2 : h 2 = c2 cc (nI k) sc wr el) (hk : k ≤ 40) (f13 : h 13 = c13 lo lt fk fs) : EV xs L (d + 1) 0 0 M_X11_side 434 h 0 [some (.ref 2), some (.int x)] [] (fun sz' h' r => sz' = 434 ∧ h' = h ∧ r = [.int (sdF lo lt x)]) := by
  refine r_iload_n rfl dX11_side_0 rfl ?_
  refine r_if_lt (tgt := 10) rfl rfl dX11_side_1 (fun c51 => ?_) (fun c51 => ?_)
  · refine r_iconst (v := (-1)) rfl dX11_side_10 (by decide) ?_
    refine r_goto (pc' := 22) rfl dX11_side_11 ?_
    exact r_ret dX11_side_22 (rt_i rfl) ⟨rfl, rfl, by rw [sdF, if_pos c51] <;> rfl⟩
  · refine r_iload_n rfl dX11_side_4 rfl ?_
    refine r_bipush (v := 8) rfl dX11_side_5 (by decide) ?_
    refine r_icmp_lt (tgt := 14) rfl rfl dX11_side_7 (fun c52 => ?_) (fun c52 => ?_)
    · refine r_aload_n rfl dX11_side_14 rfl ?_
      refine r_getv 3 rfl dX11_side_15 (show 2 ≤ 2 ∧ 2 < 434 by decide) h2 fl_X11_32 rfl ?_
      refine r_iload_n rfl dX11_side_18 rfl ?_
      refine cl_X11_129 rfl rfl dX11_side_19 (show 2 ≤ 13 ∧ 13 < 434 by decide).1 (show 2 ≤ 13 ∧ 13 < 434 by decide).2 f13 (Nat.le_of_ble_eq_true rfl) (x_X7_ownerOf hS f13) ?_
      rintro _ h53 _ ⟨rfl, e54, rfl⟩
      replace e54 := e54.symm
      subst e54
      exact r_ret dX11_side_22 (rt_i rfl) ⟨rfl, rfl, by rw [sdF, if_neg c51, if_neg (Int32.not_le.mpr c52)] <;> rfl⟩
    · refine r_iconst (v := (-1)) rfl dX11_side_10 (by decide) ?_
      refine r_goto (pc' := 22) rfl dX11_side_11 ?_
      exact r_ret dX11_side_22 (rt_i rfl) ⟨rfl, rfl, by rw [sdF, if_neg c51, if_pos (Int32.not_lt.mp c52)] <;> rfl⟩
/-- nothing but the class's own cells has changed, and of these not its text's bytes nor THE TRACE -/
def KV (h h' : ev_H) : Prop := ∀ k, k ∉ [2, 3, 5, 6, 7, 8, 9, 10, 11, 13, 24] → ¬ SP k → (∀ i, i < 40 → k ≠ 100 + 8 * i) → h' k = h k
theorem KV_rf (h : ev_H) : KV h h := fun _ _ _ _ => rfl
theorem KV_tr {a b c : ev_H} (h1 : KV a b) (h2 : KV b c) : KV a c := fun k x y z => (h2 k x y z).trans (h1 k x y z)
theorem KV_T {a b : ev_H} (h : KT a b) : KV a b := fun k x y z => h k (fun q => x (by simp at q ⊢; omega)) y z
theorem KV_M {a b : ev_H} {Mod : List Nat} (hs : ∀ k ∈ Mod, k ∈ [2, 3, 5, 6, 7, 8, 9, 10, 11, 13, 24]) (h : KM Mod a b) : KV a b := fun k x _ _ => h k (fun e => x (hs k e))
theorem LN_M {a b : ev_H} {Mod : List Nat} {k : Nat} {G : Nat → Int32} (hs : ∀ z ∈ Mod, z < 100) (h : KM Mod a b) (hL : LN k G a) : LN k G b := fun i hi => (h _ (fun z => by have := hs _ z; omega)).trans (hL i hi)
set_option maxRecDepth 20000 in
set_option maxHeartbeats 1000000 in
theorem x_X11_clauses {xs : Nat → Int32} {L d : Nat} {h : ev_H} {f g : Nat → Int32} {n c m t : Nat} {wr el pp ss kk vv cr pl tu sr kn bs bz : Int32} {A B C G : Nat → Int32} (hS : SH h) (hX : TXR f g n) (hc : c ≤ 16) (hm : m ≤ 24) (h2 : h 2 = c2 (nI c) (nI (c + m)) (nI t) wr el) (h3 : h 3 = c3 (nI n) pp ss kk vv) (h4 : h 4 = c4 f) (h5 : h 5 = c5 cr pl tu sr) (h24 : h 24 = c24 (nI c) kn bs bz) (hLN : LN (c + m) G h) (h6 : h 6 = cI 16 A) (h7 : h 7 = cI 16 B) (h8 : h 8 = cI 16 C) : EV xs L (d + 7) 0 0 M_X11_clauses 434 h 0 [some (.ref 2), none] [] (fun sz' h' r => sz' = 434 ∧ SH h' ∧ KV h h' ∧ (((csL f n 16 0 0 A B C).1 = -1 ∧ r = [.int (nI (csL f n 16 0 0 A B C).2.1)] ∧ h' 2 = c2 (nI (csL f n 16 0 0 A B C).2.1) (nI (csL f n 16 0 0 A B C).2.1) 0 (-9) (enF (clG (csL f n 16 0 0 A B C).2.2.1 (csL f n 16 0 0 A B C).2.2.2.1 (csL f n 16 0 0 A B C).2.2.2.2) (csL f n 16 0 0 A B C).2.1 0) ∧ (∃ p s k v, h' 3 = c3 0 p s k v) ∧ LN (csL f n 16 0 0 A B C).2.1 (clG (csL f n 16 0 0 A B C).2.2.1 (csL f n 16 0 0 A B C).2.2.2.1 (csL f n 16 0 0 A B C).2.2.2.2) h' ∧ (∃ fs, h' 13 = c13 (ltO (clG (csL f n 16 0 0 A B C).2.2.1 (csL f n 16 0 0 A B C).2.2.2.1 (csL f n 16 0 0 A B C).2.2.2.2) (csL f n 16 0 0 A B C).2.1) (ltE (clG (csL f n 16 0 0 A B C).2.2.1 (csL f n 16 0 0 A B C).2.2.2.1 (csL f n 16 0 0 A B C).2.2.2.2) (csL f n 16 0 0 A B C).2.1) 0 fs) ∧ (∃ bs bz, h' 24 = c24 (nI (csL f n 16 0 0 A B C).2.1) 0 bs bz)) ∨ (¬ (csL f n 16 0 0 A B C).1 = -1 ∧ r = [.int (-10 - (csL f n 16 0 0 A B C).1)] ∧ h' 2 = c2 (nI c) (nI (c + m)) (nI t) wr el ∧ (∃ p s k v, h' 3 = c3 (nI n) p s k v) ∧ LN (c + m) G h' ∧ h' 13 = h 13 ∧ h' 24 = c24 (nI c) kn bs bz))) := by
  refine r_aload_n rfl dX11_clauses_0 rfl ?_
  refine r_getv 1 rfl dX11_clauses_1 (show 2 ≤ 2 ∧ 2 < 434 by decide) h2 fl_X11_19 rfl ?_
  refine r_aload_n rfl dX11_clauses_4 rfl ?_
  refine r_getv 0 rfl dX11_clauses_5 (show 2 ≤ 2 ∧ 2 < 434 by decide) h2 fl_X11_12 rfl ?_
  refine cl_X11_101 rfl rfl dX11_clauses_8 (show 2 ≤ 5 ∧ 5 < 434 by decide).1 (show 2 ≤ 5 ∧ 5 < 434 by decide).2 h5 (Nat.le_of_ble_eq_true rfl) (s_X4_readClauses hS hX.1 h3 h4 h5 h6 h7 h8 hX) ?_
  rintro _ h51 _ ⟨rfl, hS52, hk53, rfl, ⟨p54, s55, k56, v57, f58⟩, g59, g60⟩
  have hF61 := KV_tr (KV_rf h) (KV_M (by decide) hk53)
  have f62 : h51 2 = .inr (11, [.ref 3, .ref 5, .ref 12, .ref 13, .ref 24, .ref 93, .ref 95, .ref 96, .ref 97, .ref 98, .ref 99, .int (nI c), .int (nI (c + m)), .int (nI t), .int wr, .int el]) := (hk53 2 (by decide)).trans h2
  have f63 : h51 4 = .inl (2, 300, .inl f) := (hk53 4 (by decide)).trans h4
  have f64 : h51 24 = c24 (nI c) kn bs bz := (hk53 24 (by decide)).trans h24
  have f65 : h51 13 = h 13 := (hk53 13 (by decide)).trans rfl
  have LN66 := LN_M (by decide) hk53 hLN
  refine r_topi (fun x67 e68 => ?_)
  refine r_istore_n (ls' := [some (.ref 2), some (.int x67)]) rfl dX11_clauses_11 (Nat.le_of_ble_eq_true rfl) rfl ?_
  refine r_iload_n rfl dX11_clauses_12 rfl ?_
  refine r_iconst (v := (-1)) rfl dX11_clauses_13 (by decide) ?_
  refine r_icmp_eq (tgt := 22) rfl rfl dX11_clauses_14 (fun c69 => ?_) (fun c69 => ?_)
  · have c69r := e68.symm.trans c69
    obtain ⟨⟨a70, b71, f72⟩, f73, f74, f75⟩ := g60 c69r
    refine r_aload_n rfl dX11_clauses_22 rfl ?_
    refine r_getv 0 rfl dX11_clauses_23 (show 2 ≤ 2 ∧ 2 < 434 by decide) f62 fl_X11_12 rfl ?_
    obtain ⟨y76, y77, y78, y79, y80, f81⟩ := hS52.o3
    refine cl_X11_98 rfl rfl dX11_clauses_26 (show 2 ≤ 3 ∧ 3 < 434 by decide).1 (show 2 ≤ 3 ∧ 3 < 434 by decide).2 f81 (Nat.le_of_ble_eq_true rfl) ((s_X8_wipe f58).sh hS52) ?_
    rintro _ h82 _ ⟨⟨rfl, eh84, rfl⟩, -, hS83, -⟩
    have hk85 : KM [3] h51 h82 := by rw [eh84]; exact KM_up (KM_rf _) (by decide)
    have f86 : h82 3 = .inr (8, [.ref 4, .int 0, .int p54, .int s55, .int k56, .int v57]) := by rw [eh84]; exact va_up_self _ _ _
    have hF87 := KV_tr hF61 (KV_M (by decide) hk85)
    have f88 : h82 2 = .inr (11, [.ref 3, .ref 5, .ref 12, .ref 13, .ref 24, .ref 93, .ref 95, .ref 96, .ref 97, .ref 98, .ref 99, .int (nI c), .int (nI (c + m)), .int (nI t), .int wr, .int el]) := (hk85 2 (by decide)).trans f62
    have f89 : h82 4 = .inl (2, 300, .inl f) := (hk85 4 (by decide)).trans f63
    have f90 : h82 24 = c24 (nI c) kn bs bz := (hk85 24 (by decide)).trans f64
    have f91 : h82 13 = h 13 := (hk85 13 (by decide)).trans f65
    have f92 : h82 5 = .inr (4, [.ref 6, .ref 7, .ref 8, .int (nI ((csL f n 16 0 0 A B C).2.1)), .int a70, .int b71, .ref 9, .ref 10, .ref 11, .int sr]) := (hk85 5 (by decide)).trans f72
    have f93 : h82 6 = .inl (0, 16, .inl ((csL f n 16 0 0 A B C).2.2.1)) := (hk85 6 (by decide)).trans f73
    have f94 : h82 7 = .inl (0, 16, .inl ((csL f n 16 0 0 A B C).2.2.2.1)) := (hk85 7 (by decide)).trans f74
    have f95 : h82 8 = .inl (0, 16, .inl ((csL f n 16 0 0 A B C).2.2.2.2)) := (hk85 8 (by decide)).trans f75
    have LN96 := LN_M (by decide) hk85 LN66
    refine r_aload_n rfl dX11_clauses_29 rfl ?_
    refine cl_X11_105 rfl rfl dX11_clauses_30 (show 2 ≤ 2 ∧ 2 < 434 by decide).1 (show 2 ≤ 2 ∧ 2 < 434 by decide).2 f88 (Nat.le_of_ble_eq_true rfl) (x_X11_takeClauses hS83 (csL_le f n 16 0 0 A B C) f88 f92 f93 f94 f95) ?_
    rintro _ h97 _ ⟨rfl, hS98, hk99, f100, LN101, f102, f103, rfl⟩
    have hF104 := KV_tr hF87 (KV_T hk99)
    have f105 : h97 3 = .inr (8, [.ref 4, .int 0, .int p54, .int s55, .int k56, .int v57]) := (hk99 3 (by decide) nSP_3 (by intro i hi; omega)).trans f86
    have f106 : h97 4 = .inl (2, 300, .inl f) := (hk99 4 (by decide) nSP_4 (by intro i hi; omega)).trans f89
    refine r_aload_n rfl dX11_clauses_33 rfl ?_
    refine r_getv 11 rfl dX11_clauses_34 (show 2 ≤ 2 ∧ 2 < 434 by decide) f100 fl_X11_108 rfl ?_
    exact r_ret dX11_clauses_37 (rt_i rfl) ⟨rfl, hS98, hF104, Or.inl ⟨c69r, rfl, f100, ⟨_, _, _, _, f105⟩, LN101, f102, f103⟩⟩
  · have c69r : ¬ (csL f n 16 0 0 A B C).1 = -1 := fun z => c69 (e68.trans z)
    refine r_bipush (v := (-10)) rfl dX11_clauses_17 (by decide) ?_
    refine r_iload_n rfl dX11_clauses_19 rfl ?_
    refine r_isub rfl dX11_clauses_20 ?_
    subst e68
    exact r_ret dX11_clauses_21 (rt_i rfl) ⟨rfl, hS52, hF61, Or.inr ⟨c69r, rfl, f62, ⟨_, _, _, _, f58⟩, LN66, f65, f64⟩⟩
set_option maxRecDepth 20000 in
set_option maxHeartbeats 1000000 in
theorem x_X11_proof {xs : Nat → Int32} {L d : Nat} {h : ev_H} {f g : Nat → Int32} {n c m t : Nat} {wr el pp ss kk vv cr pl tu sr kn bs bz : Int32} {A B C G : Nat → Int32} (hS : SH h) (hX : TXR f g n) (hc : c ≤ 16) (hm : m ≤ 24) (h2 : h 2 = c2 (nI c) (nI (c + m)) (nI t) wr el) (h3 : h 3 = c3 (nI n) pp ss kk vv) (h4 : h 4 = c4 f) (h5 : h 5 = c5 cr pl tu sr) (h24 : h 24 = c24 (nI c) kn bs bz) (hLN : LN (c + m) G h) (h9 : h 9 = cI 24 A) (h10 : h 10 = cI 24 B) (h11 : h 11 = cI 24 C) : EV xs L (d + 7) 0 0 M_X11_proof 434 h 0 [some (.ref 2), none] [] (fun sz' h' r => sz' = 434 ∧ SH h' ∧ KV h h' ∧ (((stL f n c 24 0 0 A B C).1 = -1 ∧ r = [.int (nI (mkL c (stL f n c 24 0 0 A B C).2.2.1 (stL f n c 24 0 0 A B C).2.2.2.1 (stL f n c 24 0 0 A B C).2.2.2.2 (stL f n c 24 0 0 A B C).2.1 0 G).1)] ∧ h' 2 = c2 (nI c) (nI (c + (mkL c (stL f n c 24 0 0 A B C).2.2.1 (stL f n c 24 0 0 A B C).2.2.2.1 (stL f n c 24 0 0 A B C).2.2.2.2 (stL f n c 24 0 0 A B C).2.1 0 G).1)) (nI (stL f n c 24 0 0 A B C).2.1) (mkL c (stL f n c 24 0 0 A B C).2.2.1 (stL f n c 24 0 0 A B C).2.2.2.1 (stL f n c 24 0 0 A B C).2.2.2.2 (stL f n c 24 0 0 A B C).2.1 0 G).2.1 (enF (mkL c (stL f n c 24 0 0 A B C).2.2.1 (stL f n c 24 0 0 A B C).2.2.2.1 (stL f n c 24 0 0 A B C).2.2.2.2 (stL f n c 24 0 0 A B C).2.1 0 G).2.2 (c + (mkL c (stL f n c 24 0 0 A B C).2.2.1 (stL f n c 24 0 0 A B C).2.2.2.1 (stL f n c 24 0 0 A B C).2.2.2.2 (stL f n c 24 0 0 A B C).2.1 0 G).1) 0) ∧ (∃ p s k v, h' 3 = c3 0 p s k v) ∧ LN (c + (mkL c (stL f n c 24 0 0 A B C).2.2.1 (stL f n c 24 0 0 A B C).2.2.2.1 (stL f n c 24 0 0 A B C).2.2.2.2 (stL f n c 24 0 0 A B C).2.1 0 G).1) (mkL c (stL f n c 24 0 0 A B C).2.2.1 (stL f n c 24 0 0 A B C).2.2.2.1 (stL f n c 24 0 0 A B C).2.2.2.2 (stL f n c 24 0 0 A B C).2.1 0 G).2.2 h' ∧ h' 13 = h 13 ∧ h' 24 = c24 (nI c) kn bs bz) ∨ (¬ (stL f n c 24 0 0 A B C).1 = -1 ∧ r = [.int (-10 - (stL f n c 24 0 0 A B C).1)] ∧ h' 2 = c2 (nI c) (nI (c + m)) (nI t) wr el ∧ (∃ p s k v, h' 3 = c3 (nI n) p s k v) ∧ LN (c + m) G h' ∧ h' 13 = h 13 ∧ h' 24 = c24 (nI c) kn bs bz))) := by
  refine r_aload_n rfl dX11_proof_0 rfl ?_
  refine r_getv 1 rfl dX11_proof_1 (show 2 ≤ 2 ∧ 2 < 434 by decide) h2 fl_X11_19 rfl ?_
  refine r_aload_n rfl dX11_proof_4 rfl ?_
  refine r_getv 0 rfl dX11_proof_5 (show 2 ≤ 2 ∧ 2 < 434 by decide) h2 fl_X11_12 rfl ?_
  refine r_aload_n rfl dX11_proof_8 rfl ?_
  refine r_getv 11 rfl dX11_proof_9 (show 2 ≤ 2 ∧ 2 < 434 by decide) h2 fl_X11_108 rfl ?_
  refine cl_X11_111 rfl rfl dX11_proof_12 (show 2 ≤ 5 ∧ 5 < 434 by decide).1 (show 2 ≤ 5 ∧ 5 < 434 by decide).2 h5 (Nat.le_of_ble_eq_true rfl) (s_X4_readSteps hS hX.1 h3 h4 h5 h9 h10 h11) ?_
  rintro _ h51 _ ⟨rfl, hS52, hk53, rfl, ⟨p54, s55, k56, v57, f58⟩, g59, g60⟩
  have hF61 := KV_tr (KV_rf h) (KV_M (by decide) hk53)
  have f62 : h51 2 = .inr (11, [.ref 3, .ref 5, .ref 12, .ref 13, .ref 24, .ref 93, .ref 95, .ref 96, .ref 97, .ref 98, .ref 99, .int (nI c), .int (nI (c + m)), .int (nI t), .int wr, .int el]) := (hk53 2 (by decide)).trans h2
  have f63 : h51 4 = .inl (2, 300, .inl f) := (hk53 4 (by decide)).trans h4
  have f64 : h51 24 = c24 (nI c) kn bs bz := (hk53 24 (by decide)).trans h24
  have f65 : h51 13 = h 13 := (hk53 13 (by decide)).trans rfl
  have LN66 := LN_M (by decide) hk53 hLN
  refine r_topi (fun x67 e68 => ?_)
  refine r_istore_n (ls' := [some (.ref 2), some (.int x67)]) rfl dX11_proof_15 (Nat.le_of_ble_eq_true rfl) rfl ?_
  refine r_iload_n rfl dX11_proof_16 rfl ?_
  refine r_iconst (v := (-1)) rfl dX11_proof_17 (by decide) ?_
  refine r_icmp_eq (tgt := 26) rfl rfl dX11_proof_18 (fun c69 => ?_) (fun c69 => ?_)
  · have c69r := e68.symm.trans c69
    obtain ⟨f72, f73, f74, f75⟩ := g60 c69r
    have hbd0 := stL_bd hX hc 24 0 0 A B C (Nat.zero_le n) (by decide) (fun j z => absurd z (by omega))
    have hbd : (stL f n c 24 0 0 A B C).2.1 ≤ 24 ∧ _ := hbd0
    have LN76 : LN c G h51 := fun i hi => LN66 i (by omega)
    refine r_aload_n rfl dX11_proof_26 rfl ?_
    refine r_getv 0 rfl dX11_proof_27 (show 2 ≤ 2 ∧ 2 < 434 by decide) f62 fl_X11_12 rfl ?_
    obtain ⟨y77, y78, y79, y80, y81, f82⟩ := hS52.o3
    refine cl_X11_98 rfl rfl dX11_proof_30 (show 2 ≤ 3 ∧ 3 < 434 by decide).1 (show 2 ≤ 3 ∧ 3 < 434 by decide).2 f82 (Nat.le_of_ble_eq_true rfl) ((s_X8_wipe f58).sh hS52) ?_
    rintro _ h83 _ ⟨⟨rfl, eh85, rfl⟩, -, hS84, -⟩
    have hk86 : KM [3] h51 h83 := by rw [eh85]; exact KM_up (KM_rf _) (by decide)
    have f87 : h83 3 = .inr (8, [.ref 4, .int 0, .int p54, .int s55, .int k56, .int v57]) := by rw [eh85]; exact va_up_self _ _ _
    have hF88 := KV_tr hF61 (KV_M (by decide) hk86)
    have f89 : h83 2 = .inr (11, [.ref 3, .ref 5, .ref 12, .ref 13, .ref 24, .ref 93, .ref 95, .ref 96, .ref 97, .ref 98, .ref 99, .int (nI c), .int (nI (c + m)), .int (nI t), .int wr, .int el]) := (hk86 2 (by decide)).trans f62
    have f90 : h83 4 = .inl (2, 300, .inl f) := (hk86 4 (by decide)).trans f63
    have f91 : h83 24 = c24 (nI c) kn bs bz := (hk86 24 (by decide)).trans f64
    have f92 : h83 13 = h 13 := (hk86 13 (by decide)).trans f65
    have f93 : h83 5 = .inr (4, [.ref 6, .ref 7, .ref 8, .int cr, .int pl, .int tu, .ref 9, .ref 10, .ref 11, .int (nI ((stL f n c 24 0 0 A B C).2.1))]) := (hk86 5 (by decide)).trans f72
    have f94 : h83 9 = .inl (0, 24, .inl ((stL f n c 24 0 0 A B C).2.2.1)) := (hk86 9 (by decide)).trans f73
    have f95 : h83 10 = .inl (0, 24, .inl ((stL f n c 24 0 0 A B C).2.2.2.1)) := (hk86 10 (by decide)).trans f74
    have f96 : h83 11 = .inl (0, 24, .inl ((stL f n c 24 0 0 A B C).2.2.2.2)) := (hk86 11 (by decide)).trans f75
    have LN97 := LN_M (by decide) hk86 LN76
    refine r_aload_n rfl dX11_proof_33 rfl ?_
    refine cl_X11_115 rfl rfl dX11_proof_34 (show 2 ≤ 2 ∧ 2 < 434 by decide).1 (show 2 ≤ 2 ∧ 2 < 434 by decide).2 f89 (Nat.le_of_ble_eq_true rfl) (x_X11_takeSteps hS84 hc (by omega) hbd.1 f89 f93 f94 f95 f96 hbd.2 LN97) ?_
    rintro _ h98 _ ⟨rfl, hS99, hk100, f101, LN102, f103, f104, rfl⟩
    have hF105 := KV_tr hF88 (KV_T hk100)
    have f106 : h98 3 = .inr (8, [.ref 4, .int 0, .int p54, .int s55, .int k56, .int v57]) := (hk100 3 (by decide) nSP_3 (by intro i hi; omega)).trans f87
    have f107 : h98 4 = .inl (2, 300, .inl f) := (hk100 4 (by decide) nSP_4 (by intro i hi; omega)).trans f90
    refine r_aload_n rfl dX11_proof_37 rfl ?_
    refine r_getv 12 rfl dX11_proof_38 (show 2 ≤ 2 ∧ 2 < 434 by decide) f101 fl_X11_118 rfl ?_
    refine r_aload_n rfl dX11_proof_41 rfl ?_
    refine r_getv 11 rfl dX11_proof_42 (show 2 ≤ 2 ∧ 2 < 434 by decide) f101 fl_X11_108 rfl ?_
    refine r_isub rfl dX11_proof_45 ?_
    have hle := mkL_le c (stL f n c 24 0 0 A B C).2.2.1 (stL f n c 24 0 0 A B C).2.2.2.1 (stL f n c 24 0 0 A B C).2.2.2.2 (stL f n c 24 0 0 A B C).2.1 0 G
    have hb1 := hbd.1
    exact r_ret dX11_proof_46 (rt_i rfl) ⟨rfl, hS99, hF105, Or.inl ⟨c69r, by rw [pk_sub (by omega), show c + (mkL c (stL f n c 24 0 0 A B C).2.2.1 (stL f n c 24 0 0 A B C).2.2.2.1 (stL f n c 24 0 0 A B C).2.2.2.2 (stL f n c 24 0 0 A B C).2.1 0 G).1 - c = (mkL c (stL f n c 24 0 0 A B C).2.2.1 (stL f n c 24 0 0 A B C).2.2.2.1 (stL f n c 24 0 0 A B C).2.2.2.2 (stL f n c 24 0 0 A B C).2.1 0 G).1 by omega]; rfl, f101, ⟨_, _, _, _, f106⟩, LN102, (f103.trans f92), (f104.trans f91)⟩⟩
  · have c69r : ¬ (stL f n c 24 0 0 A B C).1 = -1 := fun z => c69 (e68.trans z)
    refine r_bipush (v := (-10)) rfl dX11_proof_21 (by decide) ?_
    refine r_iload_n rfl dX11_proof_23 rfl ?_
    refine r_isub rfl dX11_proof_24 ?_
    subst e68
    exact r_ret dX11_proof_25 (rt_i rfl) ⟨rfl, hS52, hF61, Or.inr ⟨c69r, rfl, f62, ⟨_, _, _, _, f58⟩, LN66, f65, f64⟩⟩
