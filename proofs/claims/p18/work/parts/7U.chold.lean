def soC (p t w : Int32) : Int32 := if (p &&& w) ||| (t &&& (w ^^^ (-1))) = 0 then 0 else 1
theorem or_0 {a b : Int32} : a ||| b = 0 ↔ a = 0 ∧ b = 0 := by
  constructor
  · intro h
    have h2 : a.toBitVec ||| b.toBitVec = 0#32 := congrArg Int32.toBitVec h
    obtain ⟨h3, h4⟩ := BitVec.or_eq_zero_iff.mp h2
    exact ⟨Int32.toBitVec_inj.mp h3, Int32.toBitVec_inj.mp h4⟩
  · rintro ⟨rfl, rfl⟩; rfl
theorem soC_M (p t w : Int32) : soC p t w = soM p t w := by
  unfold soC soM
  by_cases h1 : p &&& w = 0
  · rw [if_pos h1]
    by_cases h2 : t &&& (w ^^^ (-1)) = 0
    · rw [if_pos h2, if_pos (or_0.mpr ⟨h1, h2⟩)]
    · rw [if_neg h2, if_neg (fun z => h2 (or_0.mp z).2)]
  · rw [if_neg h1, if_neg (fun z => h1 (or_0.mp z).1)]
set_option maxRecDepth 20000 in
set_option maxHeartbeats 1000000 in
theorem v_X3_isSoIn {xs : Nat → Int32} {L d : Nat} {h : ev_H} {i : Nat} {p t o a b l w : Int32} (hS : SH h) (hi : i < 40) (fl : h (100 + 8 * i) = cLn i p t o a b l) : EV xs L (d + 0) 0 0 M_X3_isSoIn 434 h 0 [some (.ref (100 + 8 * i)), some (.int w)] [] (fun sz' h' r => sz' = 434 ∧ h' = h ∧ r = [.int (soC p t w)]) := by
  refine r_aload_n rfl dX3_isSoIn_0 rfl ?_
  refine r_getv 1 rfl dX3_isSoIn_1 (show 2 ≤ 100 + 8 * i ∧ 100 + 8 * i < 434 by omega) fl fl_X3_28 rfl ?_
  refine r_iload_n rfl dX3_isSoIn_4 rfl ?_
  refine r_iand rfl dX3_isSoIn_5 ?_
  refine r_aload_n rfl dX3_isSoIn_6 rfl ?_
  refine r_getv 2 rfl dX3_isSoIn_7 (show 2 ≤ 100 + 8 * i ∧ 100 + 8 * i < 434 by omega) fl fl_X3_31 rfl ?_
  refine r_iload_n rfl dX3_isSoIn_10 rfl ?_
  refine r_iconst (v := (-1)) rfl dX3_isSoIn_11 (by decide) ?_
  refine r_ixor rfl dX3_isSoIn_12 ?_
  refine r_iand rfl dX3_isSoIn_13 ?_
  refine r_ior rfl dX3_isSoIn_14 ?_
  refine r_if_eq (tgt := 22) rfl rfl dX3_isSoIn_15 (fun c51 => ?_) (fun c51 => ?_)
  · refine r_iconst (v := 0) rfl dX3_isSoIn_22 (by decide) ?_
    exact r_ret dX3_isSoIn_23 (rt_z rfl (Or.inl rfl)) ⟨rfl, rfl, by rw [soC, if_pos c51]⟩
  · refine r_iconst (v := 1) rfl dX3_isSoIn_18 (by decide) ?_
    refine r_goto (pc' := 23) rfl dX3_isSoIn_19 ?_
    exact r_ret dX3_isSoIn_23 (rt_z rfl (Or.inr rfl)) ⟨rfl, rfl, by rw [soC, if_neg c51]⟩
theorem soC_01 (p t w : Int32) : soC p t w = 0 ∨ soC p t w = 1 := by
  unfold soC
  split
  · exact Or.inl rfl
  · exact Or.inr rfl
set_option maxRecDepth 20000 in
set_option maxHeartbeats 1000000 in
theorem v_X11_holds {xs : Nat → Int32} {L d : Nat} {h : ev_H} {k : Nat} {cc sc wr el : Int32} {G : Nat → Int32} {x y : Int32} (hS : SH h) (h2 : h 2 = c2 cc (nI k) sc wr el) (hk : k ≤ 40) (hck : k ≤ 40) (hLN : LN k G h) : EV xs L (d + 1) 0 0 M_X11_holds 434 h 0 [some (.ref 2), some (.int x), some (.int y), none] [] (fun sz' h' r => sz' = 434 ∧ h' = h ∧ ((∃ n : Nat, n < k ∧ x = nI n ∧ r = [.int (if isW y = 0 then -1 else soC (G (6 * n)) (G (6 * n + 1)) y)]) ∨ ((∀ n : Nat, n < k → ¬ x = nI n) ∧ r = [.int (-1)]))) := by
  refine r_aload_n rfl dX11_holds_0 rfl ?_
  refine r_iload_n rfl dX11_holds_1 rfl ?_
  refine cl_X11_121 rfl rfl dX11_holds_2 (show 2 ≤ 2 ∧ 2 < 434 by decide).1 (show 2 ≤ 2 ∧ 2 < 434 by decide).2 h2 (Nat.le_of_ble_eq_true rfl) (x_X11_lineAt hS h2 hk) ?_
  rintro _ h51 _ ⟨rfl, e52, ⟨n53, hn54, ex55, rfl⟩ | ⟨hno56, rfl⟩⟩
  · replace e52 := e52.symm
    subst e52
    subst ex55
    refine r_astore_n (ls' := [some (.ref 2), some (.int (nI n53)), some (.int y), some (.ref (100 + 8 * n53))]) rfl dX11_holds_5 (Nat.le_of_ble_eq_true rfl) rfl ?_
    refine r_aload_n rfl dX11_holds_6 rfl ?_
    refine r_ifnull rfl (by decide) dX11_holds_7 ?_
    refine r_iload_n rfl dX11_holds_10 rfl ?_
    refine cl_X11_132 rfl rfl dX11_holds_11 (Nat.le_of_ble_eq_true rfl) s_X11_isWorld ?_
    rintro _ h57 _ ⟨rfl, e58, rfl⟩
    replace e58 := e58.symm
    subst e58
    refine r_if_ne (tgt := 19) rfl rfl dX11_holds_14 (fun c59 => ?_) (fun c59 => ?_)
    · refine r_aload_n rfl dX11_holds_19 rfl ?_
      refine r_iload_n rfl dX11_holds_20 rfl ?_
      refine cl_X11_136 rfl rfl dX11_holds_21 (show 2 ≤ 100 + 8 * n53 ∧ 100 + 8 * n53 < 434 by omega).1 (show 2 ≤ 100 + 8 * n53 ∧ 100 + 8 * n53 < 434 by omega).2 (hLN n53 (by omega)) (Nat.le_of_ble_eq_true rfl) (v_X3_isSoIn hS (i := n53) (by omega) (hLN n53 (by omega))) ?_
      rintro _ h60 _ ⟨rfl, e61, rfl⟩
      replace e61 := e61.symm
      subst e61
      refine r_if_eq (tgt := 31) rfl rfl dX11_holds_24 (fun c63 => ?_) (fun c63 => ?_)
      · refine r_iconst (v := 0) rfl dX11_holds_31 (by decide) ?_
        exact r_ret dX11_holds_32 (rt_i rfl) ⟨rfl, rfl, Or.inl ⟨n53, hn54, rfl, by rw [if_neg c59, c63] <;> rfl⟩⟩
      · refine r_iconst (v := 1) rfl dX11_holds_27 (by decide) ?_
        refine r_goto (pc' := 32) rfl dX11_holds_28 ?_
        exact r_ret dX11_holds_32 (rt_i rfl) ⟨rfl, rfl, Or.inl ⟨n53, hn54, rfl, by rw [if_neg c59, (soC_01 _ _ _).resolve_left c63] <;> rfl⟩⟩
    · refine r_iconst (v := (-1)) rfl dX11_holds_17 (by decide) ?_
      exact r_ret dX11_holds_18 (rt_i rfl) ⟨rfl, rfl, Or.inl ⟨n53, hn54, rfl, by rw [if_pos c59] <;> rfl⟩⟩
  · replace e52 := e52.symm
    subst e52
    refine r_astore_nN (ls' := [some (.ref 2), some (.int x), some (.int y), some (.null)]) rfl dX11_holds_5 (Nat.le_of_ble_eq_true rfl) rfl ?_
    refine r_aload_nN rfl dX11_holds_6 rfl ?_
    refine r_ifnullN (tgt := 17) rfl dX11_holds_7 ?_
    refine r_iconst (v := (-1)) rfl dX11_holds_17 (by decide) ?_
    exact r_ret dX11_holds_18 (rt_i rfl) ⟨rfl, rfl, Or.inr ⟨hno56, rfl⟩⟩
