theorem mn_and {A B : Nat → Int64} : ∀ k, k ≤ 256 → mnN (fun p => A p &&& B p) k + mnN (fun p => A p &&& (B p ^^^ (-1))) k = mnN A k
  | 0, _ => rfl
  | k + 1, hk => by
    have ih := mn_and (A := A) (B := B) k (by omega)
    rw [mnN, mnN, mnN, ← ih]
    simp only [tb_and, tb_not (show k % 64 < 64 by omega)]
    cases tb (A (k / 64)) (k % 64) <;> cases tb (B (k / 64)) (k % 64) <;> simp <;> omega
theorem mn_le (A : Nat → Int64) : ∀ k, mnN A k ≤ k
  | 0 => Nat.le_refl _
  | k + 1 => by
    have := mn_le A k
    rw [mnN]
    split <;> omega
/-- what worlds answers; what bounds answers -/
def woR (G : Nat → Int32) (c : Nat) (x : Int32) : Int32 := if x = 0 then nI (mnN (wO (onP G 1 c)) 256) else if x = 1 then nI (mnN (wO (onP G 2 c)) 256) else if x = 2 then nI (mnN (fun p => wO (onP G 1 c) p &&& wO (onP G 2 c) p) 256) else -1
abbrev stW (G : Nat → Int32) (c l : Nat) : Nat → Int64 := wO (spP (onP G 1 c) l)
abbrev wkW (G : Nat → Int32) (c l : Nat) : Nat → Int64 := wO (fun w => !spP (onP G 2 c) l w)
def boR (G : Nat → Int32) (c l : Nat) (x : Int32) : Int32 := if x = 0 then nI (mnN (stW G c l) 256) else if x = 1 then nI (mnN (wkW G c l) 256) else if x = 2 then nI (mnN (fun p => wkW G c l p &&& (stW G c l p ^^^ (-1))) 256) >>> ((8 - nI (pc8 l)) &&& 31) else -1
theorem ti {x y : Int32} (h : x.toInt = y.toInt) : x = y := Int32.toInt_inj.mp h
theorem ti3 {x : Int32} (h : x.toInt < 0 ∨ 2 < x.toInt) : ¬ x = 0 ∧ ¬ x = 1 ∧ ¬ x = 2 := by
  refine ⟨fun z => ?_, fun z => ?_, fun z => ?_⟩ <;> subst z <;> revert h <;> decide
set_option maxRecDepth 20000 in
set_option maxHeartbeats 1000000 in
theorem v_X11_worlds {xs : Nat → Int32} {L d : Nat} {h : ev_H} {k : Nat} {cc sc wr el : Int32} {x : Int32} {c l : Nat} {G : Nat → Int32} (hS : SH h) (h2 : h 2 = c2 cc (nI k) sc wr el) (hk : k ≤ 40) (hD : SDc G c l h) : EV xs L (d + 2) 0 0 M_X11_worlds 434 h 0 [some (.ref 2), some (.int x)] [] (fun sz' h' r => sz' = 434 ∧ h' = h ∧ r = [.int (woR G c x)]) := by
  refine r_iload_n rfl dX11_worlds_0 rfl ?_
  by_cases c51 : x.toInt < 0 ∨ 2 < x.toInt
  · refine r_swO (tgt := 68) dX11_worlds_1 rfl c51 ?_
    refine r_iconst (v := (-1)) rfl dX11_worlds_68 (by decide) ?_
    exact r_ret dX11_worlds_69 (rt_i rfl) ⟨rfl, rfl, (by rw [woR, if_neg (ti3 c51).1, if_neg (ti3 c51).2.1, if_neg (ti3 c51).2.2] <;> rfl)⟩
  · have c51a : ¬ x.toInt < 0 := fun z => c51 (Or.inl z)
    have c51b : ¬ 2 < x.toInt := fun z => c51 (Or.inr z)
    rcases (show x.toInt = 0 ∨ x.toInt = 1 ∨ x.toInt = 2 by omega) with c51e | c51e | c51e
    · refine r_swI (off := 27) (tgt := 28) dX11_worlds_1 rfl c51a c51b (by rw [c51e]; rfl) ?_
      refine r_aload_n rfl dX11_worlds_28 rfl ?_
      refine r_getv 3 rfl dX11_worlds_29 (show 2 ≤ 2 ∧ 2 < 434 by decide) h2 fl_X11_32 rfl ?_
      obtain ⟨y52, y53, y54, y55, f56⟩ := hS.o13
      refine r_getv 0 rfl dX11_worlds_32 (show 2 ≤ 13 ∧ 13 < 434 by decide) f56 fl_X11_139 rfl ?_
      obtain ⟨t57, hw58⟩ := hD.1.is hS wsAt_14
      refine cl_X11_142 rfl rfl dX11_worlds_35 (show 2 ≤ 14 ∧ 14 < 434 by decide).1 (show 2 ≤ 14 ∧ 14 < 434 by decide).2 hw58.2.2.1 (Nat.le_of_ble_eq_true rfl) (s_X10_size hw58) ?_
      rintro _ h59 _ ⟨rfl, e60, rfl⟩
      replace e60 := e60.symm
      subst e60
      have ex : x = 0 := ti c51e
      subst ex
      exact r_ret dX11_worlds_38 (rt_i rfl) ⟨rfl, rfl, (by rw [woR, if_pos rfl, ← wsz_mn (wO (onP G 1 c))] <;> rfl)⟩
    · refine r_swI (off := 38) (tgt := 39) dX11_worlds_1 rfl c51a c51b (by rw [c51e]; rfl) ?_
      refine r_aload_n rfl dX11_worlds_39 rfl ?_
      refine r_getv 3 rfl dX11_worlds_40 (show 2 ≤ 2 ∧ 2 < 434 by decide) h2 fl_X11_32 rfl ?_
      obtain ⟨y61, y62, y63, y64, f65⟩ := hS.o13
      refine r_getv 1 rfl dX11_worlds_43 (show 2 ≤ 13 ∧ 13 < 434 by decide) f65 fl_X11_143 rfl ?_
      obtain ⟨t66, hw67⟩ := hD.2.1.is hS wsAt_16
      refine cl_X11_142 rfl rfl dX11_worlds_46 (show 2 ≤ 16 ∧ 16 < 434 by decide).1 (show 2 ≤ 16 ∧ 16 < 434 by decide).2 hw67.2.2.1 (Nat.le_of_ble_eq_true rfl) (s_X10_size hw67) ?_
      rintro _ h68 _ ⟨rfl, e69, rfl⟩
      replace e69 := e69.symm
      subst e69
      have ex : x = 1 := ti c51e
      subst ex
      exact r_ret dX11_worlds_49 (rt_i rfl) ⟨rfl, rfl, (by rw [woR, if_neg (by decide), if_pos rfl, ← wsz_mn (wO (onP G 2 c))] <;> rfl)⟩
    · refine r_swI (off := 49) (tgt := 50) dX11_worlds_1 rfl c51a c51b (by rw [c51e]; rfl) ?_
      refine r_aload_n rfl dX11_worlds_50 rfl ?_
      refine r_getv 3 rfl dX11_worlds_51 (show 2 ≤ 2 ∧ 2 < 434 by decide) h2 fl_X11_32 rfl ?_
      obtain ⟨y70, y71, y72, y73, f74⟩ := hS.o13
      refine r_getv 0 rfl dX11_worlds_54 (show 2 ≤ 13 ∧ 13 < 434 by decide) f74 fl_X11_139 rfl ?_
      refine r_aload_n rfl dX11_worlds_57 rfl ?_
      refine r_getv 3 rfl dX11_worlds_58 (show 2 ≤ 2 ∧ 2 < 434 by decide) h2 fl_X11_32 rfl ?_
      refine r_getv 1 rfl dX11_worlds_61 (show 2 ≤ 13 ∧ 13 < 434 by decide) f74 fl_X11_143 rfl ?_
      obtain ⟨t75, hw76⟩ := hD.1.is hS wsAt_14
      obtain ⟨t77, hw78⟩ := hD.2.1.is hS wsAt_16
      refine cl_X11_146 rfl rfl dX11_worlds_64 (show 2 ≤ 14 ∧ 14 < 434 by decide).1 (show 2 ≤ 14 ∧ 14 < 434 by decide).2 hw76.2.2.1 (Nat.le_of_ble_eq_true rfl) (s_X10_sizeWith hw76 hw78) ?_
      rintro _ h79 _ ⟨rfl, e80, rfl⟩
      replace e80 := e80.symm
      subst e80
      have ex : x = 2 := ti c51e
      subst ex
      exact r_ret dX11_worlds_67 (rt_i rfl) ⟨rfl, rfl, (by rw [woR, if_neg (by decide), if_neg (by decide), if_pos rfl, ← wsz_mn (fun p => wO (onP G 1 c) p &&& wO (onP G 2 c) p)] <;> rfl)⟩
set_option maxRecDepth 20000 in
set_option maxHeartbeats 1000000 in
theorem v_X7_freeChoices {xs : Nat → Int32} {L d : Nat} {h : ev_H} {lo lt fk fs : Int32} {c l : Nat} {G : Nat → Int32} (hS : SH h) (f13 : h 13 = c13 lo lt fk fs) (hD : SDc G c l h) : EV xs L (d + 2) 0 0 M_X7_freeChoices 434 h 0 [some (.ref 13), none] [] (fun sz' h' r => sz' = 434 ∧ h' = h ∧ r = [.int ((wsz (wkW G c l 0) (wkW G c l 1) (wkW G c l 2) (wkW G c l 3) - wsz (wkW G c l 0 &&& stW G c l 0) (wkW G c l 1 &&& stW G c l 1) (wkW G c l 2 &&& stW G c l 2) (wkW G c l 3 &&& stW G c l 3)) >>> ((8 - bc32 (lo &&& lt)) &&& 31))]) := by
  refine r_aload_n rfl dX7_freeChoices_0 rfl ?_
  refine r_getv 3 rfl dX7_freeChoices_1 (show 2 ≤ 13 ∧ 13 < 434 by decide) f13 fl_X7_24 rfl ?_
  obtain ⟨t51, hw52⟩ := hD.2.2.2.is hS wsAt_20
  refine cl_X7_85 rfl rfl dX7_freeChoices_4 (show 2 ≤ 20 ∧ 20 < 434 by decide).1 (show 2 ≤ 20 ∧ 20 < 434 by decide).2 hw52.2.2.1 (Nat.le_of_ble_eq_true rfl) (s_X10_size hw52) ?_
  rintro _ h53 _ ⟨rfl, e54, rfl⟩
  replace e54 := e54.symm
  subst e54
  refine r_aload_n rfl dX7_freeChoices_7 rfl ?_
  refine r_getv 3 rfl dX7_freeChoices_8 (show 2 ≤ 13 ∧ 13 < 434 by decide) f13 fl_X7_24 rfl ?_
  refine r_aload_n rfl dX7_freeChoices_11 rfl ?_
  refine r_getv 2 rfl dX7_freeChoices_12 (show 2 ≤ 13 ∧ 13 < 434 by decide) f13 fl_X7_21 rfl ?_
  obtain ⟨t55, hw56⟩ := hD.2.2.2.is hS wsAt_20
  obtain ⟨t57, hw58⟩ := hD.2.2.1.is hS wsAt_18
  refine cl_X7_81 rfl rfl dX7_freeChoices_15 (show 2 ≤ 20 ∧ 20 < 434 by decide).1 (show 2 ≤ 20 ∧ 20 < 434 by decide).2 hw56.2.2.1 (Nat.le_of_ble_eq_true rfl) (s_X10_sizeWith hw56 hw58) ?_
  rintro _ h59 _ ⟨rfl, e60, rfl⟩
  replace e60 := e60.symm
  subst e60
  refine r_isub rfl dX7_freeChoices_18 ?_
  refine r_topi (fun x61 e62 => ?_)
  refine r_istore_n (ls' := [some (.ref 13), some (.int x61)]) rfl dX7_freeChoices_19 (Nat.le_of_ble_eq_true rfl) rfl ?_
  refine r_iload_n rfl dX7_freeChoices_20 rfl ?_
  refine r_bipush (v := 8) rfl dX7_freeChoices_21 (by decide) ?_
  refine r_aload_n rfl dX7_freeChoices_23 rfl ?_
  refine cl_X7_60 rfl rfl dX7_freeChoices_24 (show 2 ≤ 13 ∧ 13 < 434 by decide).1 (show 2 ≤ 13 ∧ 13 < 434 by decide).2 f13 (Nat.le_of_ble_eq_true rfl) (x_X7_sharedLetters hS f13) ?_
  rintro _ h63 _ ⟨rfl, e64, rfl⟩
  replace e64 := e64.symm
  subst e64
  refine cl_X7_88 rfl rfl dX7_freeChoices_27 (Nat.le_of_ble_eq_true rfl) s_J6_bitCount_0f7a4 ?_
  rintro _ h66 _ ⟨rfl, e67, rfl⟩
  replace e67 := e67.symm
  subst e67
  refine r_isub rfl dX7_freeChoices_30 ?_
  refine r_ishr rfl dX7_freeChoices_31 ?_
  subst e62
  exact r_ret dX7_freeChoices_32 (rt_i rfl) ⟨rfl, rfl, rfl⟩
theorem free_eq {G : Nat → Int32} {c l : Nat} {lo lt : Int32} (hl : l < 256) (hs : lo &&& lt = nI l) : (wsz (wkW G c l 0) (wkW G c l 1) (wkW G c l 2) (wkW G c l 3) - wsz (wkW G c l 0 &&& stW G c l 0) (wkW G c l 1 &&& stW G c l 1) (wkW G c l 2 &&& stW G c l 2) (wkW G c l 3 &&& stW G c l 3)) >>> ((8 - bc32 (lo &&& lt)) &&& 31) = nI (mnN (fun p => wkW G c l p &&& (stW G c l p ^^^ (-1))) 256) >>> ((8 - nI (pc8 l)) &&& 31) := by
  rw [hs, bc8 ⟨l, hl⟩, wsz_mn (wkW G c l), wsz_mn (fun p => wkW G c l p &&& stW G c l p)]
  have h := mn_and (A := wkW G c l) (B := stW G c l) 256 (by omega)
  rw [pk_sub (by omega), show mnN (wkW G c l) 256 - mnN (fun p => wkW G c l p &&& stW G c l p) 256 = mnN (fun p => wkW G c l p &&& (stW G c l p ^^^ (-1))) 256 by omega]
set_option maxRecDepth 20000 in
set_option maxHeartbeats 1000000 in
theorem v_X11_bounds {xs : Nat → Int32} {L d : Nat} {h : ev_H} {k : Nat} {cc sc wr el : Int32} {x lo lt fk fs : Int32} {c l : Nat} {G : Nat → Int32} (hS : SH h) (h2 : h 2 = c2 cc (nI k) sc wr el) (hk : k ≤ 40) (f13 : h 13 = c13 lo lt fk fs) (hD : SDc G c l h) (hl : l < 256) (hsh : lo &&& lt = nI l) : EV xs L (d + 3) 0 0 M_X11_bounds 434 h 0 [some (.ref 2), some (.int x)] [] (fun sz' h' r => sz' = 434 ∧ h' = h ∧ r = [.int (boR G c l x)]) := by
  refine r_iload_n rfl dX11_bounds_0 rfl ?_
  by_cases c51 : x.toInt < 0 ∨ 2 < x.toInt
  · refine r_swO (tgt := 58) dX11_bounds_1 rfl c51 ?_
    refine r_iconst (v := (-1)) rfl dX11_bounds_58 (by decide) ?_
    exact r_ret dX11_bounds_59 (rt_i rfl) ⟨rfl, rfl, (by rw [boR, if_neg (ti3 c51).1, if_neg (ti3 c51).2.1, if_neg (ti3 c51).2.2] <;> rfl)⟩
  · have c51a : ¬ x.toInt < 0 := fun z => c51 (Or.inl z)
    have c51b : ¬ 2 < x.toInt := fun z => c51 (Or.inr z)
    rcases (show x.toInt = 0 ∨ x.toInt = 1 ∨ x.toInt = 2 by omega) with c51e | c51e | c51e
    · refine r_swI (off := 27) (tgt := 28) dX11_bounds_1 rfl c51a c51b (by rw [c51e]; rfl) ?_
      refine r_aload_n rfl dX11_bounds_28 rfl ?_
      refine r_getv 3 rfl dX11_bounds_29 (show 2 ≤ 2 ∧ 2 < 434 by decide) h2 fl_X11_32 rfl ?_
      refine r_getv 2 rfl dX11_bounds_32 (show 2 ≤ 13 ∧ 13 < 434 by decide) f13 fl_X11_177 rfl ?_
      obtain ⟨t52, hw53⟩ := hD.2.2.1.is hS wsAt_18
      refine cl_X11_142 rfl rfl dX11_bounds_35 (show 2 ≤ 18 ∧ 18 < 434 by decide).1 (show 2 ≤ 18 ∧ 18 < 434 by decide).2 hw53.2.2.1 (Nat.le_of_ble_eq_true rfl) (s_X10_size hw53) ?_
      rintro _ h54 _ ⟨rfl, e55, rfl⟩
      replace e55 := e55.symm
      subst e55
      have ex : x = 0 := ti c51e
      subst ex
      exact r_ret dX11_bounds_38 (rt_i rfl) ⟨rfl, rfl, (by rw [boR, if_pos rfl, ← wsz_mn (stW G c l)] <;> rfl)⟩
    · refine r_swI (off := 38) (tgt := 39) dX11_bounds_1 rfl c51a c51b (by rw [c51e]; rfl) ?_
      refine r_aload_n rfl dX11_bounds_39 rfl ?_
      refine r_getv 3 rfl dX11_bounds_40 (show 2 ≤ 2 ∧ 2 < 434 by decide) h2 fl_X11_32 rfl ?_
      refine r_getv 3 rfl dX11_bounds_43 (show 2 ≤ 13 ∧ 13 < 434 by decide) f13 fl_X11_180 rfl ?_
      obtain ⟨t56, hw57⟩ := hD.2.2.2.is hS wsAt_20
      refine cl_X11_142 rfl rfl dX11_bounds_46 (show 2 ≤ 20 ∧ 20 < 434 by decide).1 (show 2 ≤ 20 ∧ 20 < 434 by decide).2 hw57.2.2.1 (Nat.le_of_ble_eq_true rfl) (s_X10_size hw57) ?_
      rintro _ h58 _ ⟨rfl, e59, rfl⟩
      replace e59 := e59.symm
      subst e59
      have ex : x = 1 := ti c51e
      subst ex
      exact r_ret dX11_bounds_49 (rt_i rfl) ⟨rfl, rfl, (by rw [boR, if_neg (by decide), if_pos rfl, ← wsz_mn (wkW G c l)] <;> rfl)⟩
    · refine r_swI (off := 49) (tgt := 50) dX11_bounds_1 rfl c51a c51b (by rw [c51e]; rfl) ?_
      refine r_aload_n rfl dX11_bounds_50 rfl ?_
      refine r_getv 3 rfl dX11_bounds_51 (show 2 ≤ 2 ∧ 2 < 434 by decide) h2 fl_X11_32 rfl ?_
      refine cl_X11_183 rfl rfl dX11_bounds_54 (show 2 ≤ 13 ∧ 13 < 434 by decide).1 (show 2 ≤ 13 ∧ 13 < 434 by decide).2 f13 (Nat.le_of_ble_eq_true rfl) (v_X7_freeChoices hS f13 hD) ?_
      rintro _ h60 _ ⟨rfl, e61, rfl⟩
      replace e61 := e61.symm
      subst e61
      have ex : x = 2 := ti c51e
      subst ex
      exact r_ret dX11_bounds_57 (rt_i rfl) ⟨rfl, rfl, (by rw [boR, if_neg (by decide), if_neg (by decide), if_pos rfl, ← free_eq hl hsh] <;> rfl)⟩
