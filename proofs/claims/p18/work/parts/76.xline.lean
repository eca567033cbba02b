set_option maxRecDepth 20000 in
set_option maxHeartbeats 1000000 in
theorem x_X3_literals {xs : Nat → Int32} {L d : Nat} {h : ev_H} {i : Nat} {p t o a b l : Int32} (hS : SH h) (hi : i < 40) (fl : h (100 + 8 * i) = cLn i p t o a b l) : EV xs L (d + 1) 0 0 M_X3_literals 434 h 0 [some (.ref (100 + 8 * i))] [] (fun sz' h' r => sz' = 434 ∧ h' = h ∧ r = [.int (bc32 p + bc32 t)]) := by
  refine r_aload_n rfl dX3_literals_0 rfl ?_
  refine r_getv 1 rfl dX3_literals_1 (show 2 ≤ 100 + 8 * i ∧ 100 + 8 * i < 434 by omega) fl fl_X3_28 rfl ?_
  refine cl_X3_37 rfl rfl dX3_literals_4 (Nat.le_of_ble_eq_true rfl) s_J6_bitCount_0f7a4 ?_
  rintro _ h51 _ ⟨rfl, e52, rfl⟩
  replace e52 := e52.symm
  subst e52
  refine r_aload_n rfl dX3_literals_7 rfl ?_
  refine r_getv 2 rfl dX3_literals_8 (show 2 ≤ 100 + 8 * i ∧ 100 + 8 * i < 434 by omega) fl fl_X3_31 rfl ?_
  refine cl_X3_37 rfl rfl dX3_literals_11 (Nat.le_of_ble_eq_true rfl) s_J6_bitCount_0f7a4 ?_
  rintro _ h53 _ ⟨rfl, e54, rfl⟩
  replace e54 := e54.symm
  subst e54
  refine r_iadd rfl dX3_literals_14 ?_
  exact r_ret dX3_literals_15 (rt_i rfl) ⟨rfl, rfl, rfl⟩
set_option maxRecDepth 20000 in
set_option maxHeartbeats 1000000 in
theorem x_X3_letters {xs : Nat → Int32} {L d : Nat} {h : ev_H} {i : Nat} {p t o a b l : Int32} (hS : SH h) (hi : i < 40) (fl : h (100 + 8 * i) = cLn i p t o a b l) : EV xs L (d + 0) 0 0 M_X3_letters 434 h 0 [some (.ref (100 + 8 * i))] [] (fun sz' h' r => sz' = 434 ∧ h' = h ∧ r = [.int (p ||| t)]) := by
  refine r_aload_n rfl dX3_letters_0 rfl ?_
  refine r_getv 1 rfl dX3_letters_1 (show 2 ≤ 100 + 8 * i ∧ 100 + 8 * i < 434 by omega) fl fl_X3_28 rfl ?_
  refine r_aload_n rfl dX3_letters_4 rfl ?_
  refine r_getv 2 rfl dX3_letters_5 (show 2 ≤ 100 + 8 * i ∧ 100 + 8 * i < 434 by omega) fl fl_X3_31 rfl ?_
  refine r_ior rfl dX3_letters_8 ?_
  exact r_ret dX3_letters_9 (rt_i rfl) ⟨rfl, rfl, rfl⟩
/-- a number of a LINE -/
def lpr (p t o a b l w : Int32) : Int32 := if w = 0 then p else if w = 1 then t else if w = 2 then o else if w = 3 then a else if w = 4 then b else if w = 5 then l else -1
theorem lpr_0 {p t o a b l w : Int32} (h : w.toInt = 0) : lpr p t o a b l w = p := by obtain rfl : w = 0 := Int32.toInt_inj.mp h; rfl
theorem lpr_1 {p t o a b l w : Int32} (h : w.toInt = 1) : lpr p t o a b l w = t := by obtain rfl : w = 1 := Int32.toInt_inj.mp h; rfl
theorem lpr_2 {p t o a b l w : Int32} (h : w.toInt = 2) : lpr p t o a b l w = o := by obtain rfl : w = 2 := Int32.toInt_inj.mp h; rfl
theorem lpr_3 {p t o a b l w : Int32} (h : w.toInt = 3) : lpr p t o a b l w = a := by obtain rfl : w = 3 := Int32.toInt_inj.mp h; rfl
theorem lpr_4 {p t o a b l w : Int32} (h : w.toInt = 4) : lpr p t o a b l w = b := by obtain rfl : w = 4 := Int32.toInt_inj.mp h; rfl
theorem lpr_5 {p t o a b l w : Int32} (h : w.toInt = 5) : lpr p t o a b l w = l := by obtain rfl : w = 5 := Int32.toInt_inj.mp h; rfl
theorem lpr_o {p t o a b l w : Int32} (h : w.toInt < 0 ∨ 5 < w.toInt) : lpr p t o a b l w = -1 := by
  unfold lpr
  rw [if_neg, if_neg, if_neg, if_neg, if_neg, if_neg]
  all_goals (intro e; subst e; revert h; decide)
set_option maxRecDepth 20000 in
set_option maxHeartbeats 1000000 in
theorem x_X3_property {xs : Nat → Int32} {L d : Nat} {h : ev_H} {i : Nat} {p t o a b l : Int32} {w : Int32} (hS : SH h) (hi : i < 40) (fl : h (100 + 8 * i) = cLn i p t o a b l) : EV xs L (d + 0) 0 0 M_X3_property 434 h 0 [some (.ref (100 + 8 * i)), some (.int w)] [] (fun sz' h' r => sz' = 434 ∧ h' = h ∧ r = [.int (lpr p t o a b l w)]) := by
  refine r_iload_n rfl dX3_property_0 rfl ?_
  by_cases c51 : w.toInt < 0 ∨ 5 < w.toInt
  · refine r_swO (tgt := 70) dX3_property_1 rfl c51 ?_
    refine r_iconst (v := (-1)) rfl dX3_property_70 (by decide) ?_
    exact r_ret dX3_property_71 (rt_i rfl) ⟨rfl, rfl, by rw [lpr_o c51]⟩
  · have c51a : ¬ w.toInt < 0 := fun z => c51 (Or.inl z)
    have c51b : ¬ 5 < w.toInt := fun z => c51 (Or.inr z)
    rcases (show w.toInt = 0 ∨ w.toInt = 1 ∨ w.toInt = 2 ∨ w.toInt = 3 ∨ w.toInt = 4 ∨ w.toInt = 5 by omega) with c51e | c51e | c51e | c51e | c51e | c51e
    · refine r_swI (off := 39) (tgt := 40) dX3_property_1 rfl c51a c51b (by rw [c51e]; rfl) ?_
      refine r_aload_n rfl dX3_property_40 rfl ?_
      refine r_getv 1 rfl dX3_property_41 (show 2 ≤ 100 + 8 * i ∧ 100 + 8 * i < 434 by omega) fl fl_X3_28 rfl ?_
      exact r_ret dX3_property_44 (rt_i rfl) ⟨rfl, rfl, by rw [lpr_0 c51e]⟩
    · refine r_swI (off := 44) (tgt := 45) dX3_property_1 rfl c51a c51b (by rw [c51e]; rfl) ?_
      refine r_aload_n rfl dX3_property_45 rfl ?_
      refine r_getv 2 rfl dX3_property_46 (show 2 ≤ 100 + 8 * i ∧ 100 + 8 * i < 434 by omega) fl fl_X3_31 rfl ?_
      exact r_ret dX3_property_49 (rt_i rfl) ⟨rfl, rfl, by rw [lpr_1 c51e]⟩
    · refine r_swI (off := 49) (tgt := 50) dX3_property_1 rfl c51a c51b (by rw [c51e]; rfl) ?_
      refine r_aload_n rfl dX3_property_50 rfl ?_
      refine r_getv 3 rfl dX3_property_51 (show 2 ≤ 100 + 8 * i ∧ 100 + 8 * i < 434 by omega) fl fl_X3_34 rfl ?_
      exact r_ret dX3_property_54 (rt_i rfl) ⟨rfl, rfl, by rw [lpr_2 c51e]⟩
    · refine r_swI (off := 54) (tgt := 55) dX3_property_1 rfl c51a c51b (by rw [c51e]; rfl) ?_
      refine r_aload_n rfl dX3_property_55 rfl ?_
      refine r_getv 4 rfl dX3_property_56 (show 2 ≤ 100 + 8 * i ∧ 100 + 8 * i < 434 by omega) fl fl_X3_17 rfl ?_
      exact r_ret dX3_property_59 (rt_i rfl) ⟨rfl, rfl, by rw [lpr_3 c51e]⟩
    · refine r_swI (off := 59) (tgt := 60) dX3_property_1 rfl c51a c51b (by rw [c51e]; rfl) ?_
      refine r_aload_n rfl dX3_property_60 rfl ?_
      refine r_getv 5 rfl dX3_property_61 (show 2 ≤ 100 + 8 * i ∧ 100 + 8 * i < 434 by omega) fl fl_X3_21 rfl ?_
      exact r_ret dX3_property_64 (rt_i rfl) ⟨rfl, rfl, by rw [lpr_4 c51e]⟩
    · refine r_swI (off := 64) (tgt := 65) dX3_property_1 rfl c51a c51b (by rw [c51e]; rfl) ?_
      refine r_aload_n rfl dX3_property_65 rfl ?_
      refine r_getv 6 rfl dX3_property_66 (show 2 ≤ 100 + 8 * i ∧ 100 + 8 * i < 434 by omega) fl fl_X3_24 rfl ?_
      exact r_ret dX3_property_69 (rt_i rfl) ⟨rfl, rfl, by rw [lpr_5 c51e]⟩
set_option maxRecDepth 20000 in
set_option maxHeartbeats 1000000 in
theorem x_X3_isSoIn {xs : Nat → Int32} {L d : Nat} {h : ev_H} {i : Nat} {w : Int32} (hS : SH h) (hi : i < 40) : EV xs L (d + 0) 0 0 M_X3_isSoIn 434 h 0 [some (.ref (100 + 8 * i)), some (.int w)] [] (fun sz' h' r => sz' = 434 ∧ h' = h ∧ ∃ x : Int32, r = [.int x]) := by
  refine r_aload_n rfl dX3_isSoIn_0 rfl ?_
  obtain ⟨y51, y52, y53, y54, y55, y56, f57⟩ := hS.ln (i := i) (by omega)
  refine r_getv 1 rfl dX3_isSoIn_1 (show 2 ≤ 100 + 8 * i ∧ 100 + 8 * i < 434 by omega) f57 fl_X3_28 rfl ?_
  refine r_iload_n rfl dX3_isSoIn_4 rfl ?_
  refine r_iand rfl dX3_isSoIn_5 ?_
  refine r_aload_n rfl dX3_isSoIn_6 rfl ?_
  refine r_getv 2 rfl dX3_isSoIn_7 (show 2 ≤ 100 + 8 * i ∧ 100 + 8 * i < 434 by omega) f57 fl_X3_31 rfl ?_
  refine r_iload_n rfl dX3_isSoIn_10 rfl ?_
  refine r_iconst (v := (-1)) rfl dX3_isSoIn_11 (by decide) ?_
  refine r_ixor rfl dX3_isSoIn_12 ?_
  refine r_iand rfl dX3_isSoIn_13 ?_
  refine r_ior rfl dX3_isSoIn_14 ?_
  refine r_if_eq (tgt := 22) rfl rfl dX3_isSoIn_15 (fun c58 => ?_) (fun c58 => ?_)
  · refine r_iconst (v := 0) rfl dX3_isSoIn_22 (by decide) ?_
    exact r_ret dX3_isSoIn_23 (rt_z rfl (Or.inl rfl)) ⟨rfl, rfl, _, rfl⟩
  · refine r_iconst (v := 1) rfl dX3_isSoIn_18 (by decide) ?_
    refine r_goto (pc' := 23) rfl dX3_isSoIn_19 ?_
    exact r_ret dX3_isSoIn_23 (rt_z rfl (Or.inr rfl)) ⟨rfl, rfl, _, rfl⟩
