theorem nI_x : ∀ w : Fin 256, ∀ l : Fin 8, nI w.1 ^^^ ((1 : Int32) <<< (nI l.1 &&& 31)) = nI (w.1 ^^^ 2 ^ l.1) := by decide +kernel
set_option maxRecDepth 20000 in
set_option maxHeartbeats 1000000 in
theorem z_lki_z {xs : Nat → Int32} {L d : Nat} {h : ev_H} {h0 : ev_H} {a w : Nat} {A : Nat → Int64} {P : Nat → Bool} {acc : Int32} {Q : ev_Q} {k : Nat} (hS : SH h) (hb1 : 2 ≤ a ∧ a < 434) (hA : ∀ p, p < 4 → A p = wO P p) (hw : w < 256) (kx : ∀ h' : ev_H, SH h' → KM [] h0 h' → h' a = .inl (1, 4, .inr (.inl A)) → EV xs L (d + 1) 0 0 M_X12_looksOf 434 h' 57 [some (.ref a), some (.int (lk1 P w 8 acc)), some (.int (nI w)), some (.int (nI 8))] [] Q) (hF : KM [] h0 h) (fa : h a = .inl (1, 4, .inr (.inl A))) (hk : k = 8) : EV xs L (d + 1) 0 0 M_X12_looksOf 434 h 13 [some (.ref a), some (.int (lk1 P w (k) acc)), some (.int (nI w)), some (.int (nI k))] [] Q := by
  refine r_iload_n rfl dX12_looksOf_13 rfl ?_
  refine r_bipush (v := 8) rfl dX12_looksOf_14 (by decide) ?_
  refine r_icmp_ge (tgt := 57) rfl rfl dX12_looksOf_16 (fun _ => ?_) (fun zc => absurd (show nI (8) ≤ nI k from nI_le (a := 8) (b := k) (by omega) (by omega)) zc)
  subst hk
  exact kx h hS hF fa
set_option maxRecDepth 20000 in
set_option maxHeartbeats 1000000 in
theorem z_lki_s {xs : Nat → Int32} {L d : Nat} {h : ev_H} {h0 : ev_H} {a w : Nat} {A : Nat → Int64} {P : Nat → Bool} {acc : Int32} {Q : ev_Q} {k : Nat} (hS : SH h) (hb1 : 2 ≤ a ∧ a < 434) (hA : ∀ p, p < 4 → A p = wO P p) (hw : w < 256) (kx : ∀ h' : ev_H, SH h' → KM [] h0 h' → h' a = .inl (1, 4, .inr (.inl A)) → EV xs L (d + 1) 0 0 M_X12_looksOf 434 h' 57 [some (.ref a), some (.int (lk1 P w 8 acc)), some (.int (nI w)), some (.int (nI 8))] [] Q) (hF : KM [] h0 h) (fa : h a = .inl (1, 4, .inr (.inl A))) (hk : k < 8) (ih : ∀ (h' : ev_H), SH h' → KM [] h0 h' → h' a = .inl (1, 4, .inr (.inl A)) → EV xs L (d + 1) 0 0 M_X12_looksOf 434 h' 13 [some (.ref a), some (.int (lk1 P w (k + 1) acc)), some (.int (nI w)), some (.int (nI (k + 1)))] [] Q) : EV xs L (d + 1) 0 0 M_X12_looksOf 434 h 13 [some (.ref a), some (.int (lk1 P w (k) acc)), some (.int (nI w)), some (.int (nI k))] [] Q := by
  refine r_iload_n rfl dX12_looksOf_13 rfl ?_
  refine r_bipush (v := 8) rfl dX12_looksOf_14 (by decide) ?_
  refine r_icmp_ge (tgt := 57) rfl rfl dX12_looksOf_16 (fun zc => absurd zc (show ¬ nI (8) ≤ nI k from nI_ge (a := k) (b := 8) (by omega) (by omega))) (fun _ => ?_)
  refine r_iload_n rfl dX12_looksOf_19 rfl ?_
  refine r_aload_n rfl dX12_looksOf_20 rfl ?_
  refine r_iconst (v := 0) rfl dX12_looksOf_21 (by decide) ?_
  refine r_iload_n rfl dX12_looksOf_22 rfl ?_
  refine cl_X12_143 rfl rfl dX12_looksOf_23 (Nat.le_of_ble_eq_true rfl) (z_X12_has (q := 0) (w := w) hS hb1 fa (by decide) (by omega) (by omega)) ?_
  rintro _ h51 _ ⟨rfl, e52, rfl⟩
  replace e52 := e52.symm
  subst e52
  refine r_if_eq (tgt := 48) rfl rfl dX12_looksOf_26 (fun c53 => ?_) (fun c53 => ?_)
  · refine r_iconst (v := 0) rfl dX12_looksOf_48 (by decide) ?_
    refine r_ior rfl dX12_looksOf_49 ?_
    refine r_topi (fun x54 e55 => ?_)
    refine r_istore_n (ls' := [some (.ref a), some (.int x54), some (.int (nI w)), some (.int (nI k))]) rfl dX12_looksOf_50 (Nat.le_of_ble_eq_true rfl) rfl ?_
    refine r_iinc (y := nI (k + 1)) (ls' := [some (.ref a), some (.int x54), some (.int (nI w)), some (.int (nI (k + 1)))]) rfl dX12_looksOf_51 rfl (nI_1 k) (Nat.le_of_ble_eq_true rfl) rfl ?_
    refine r_goto (pc' := 13) rfl dX12_looksOf_54 ?_
    subst e55
    rw [lk1, if_neg (fun q => (hs_wO hA hw).mp c53 q.1)] at ih
    exact ih h hS hF fa
  · refine r_aload_n rfl dX12_looksOf_29 rfl ?_
    refine r_iconst (v := 0) rfl dX12_looksOf_30 (by decide) ?_
    refine r_iload_n rfl dX12_looksOf_31 rfl ?_
    refine r_iconst (v := 1) rfl dX12_looksOf_32 (by decide) ?_
    refine r_iload_n rfl dX12_looksOf_33 rfl ?_
    refine r_ishl rfl dX12_looksOf_34 ?_
    refine r_ixor rfl dX12_looksOf_35 ?_
    refine r_eqi (y := nI (w ^^^ 2 ^ k)) (nI_x ⟨w, hw⟩ ⟨k, by omega⟩) ?_
    have hxw : w ^^^ 2 ^ k < 256 := (xr ⟨k, by omega⟩ ⟨w, hw⟩).1
    refine cl_X12_143 rfl rfl dX12_looksOf_36 (Nat.le_of_ble_eq_true rfl) (z_X12_has (q := 0) (w := w ^^^ 2 ^ k) hS hb1 fa (by decide) (by omega) (by omega)) ?_
    rintro _ h56 _ ⟨rfl, e57, rfl⟩
    replace e57 := e57.symm
    subst e57
    refine r_if_ne (tgt := 48) rfl rfl dX12_looksOf_39 (fun c58 => ?_) (fun c58 => ?_)
    · refine r_iconst (v := 0) rfl dX12_looksOf_48 (by decide) ?_
      refine r_ior rfl dX12_looksOf_49 ?_
      refine r_topi (fun x59 e60 => ?_)
      refine r_istore_n (ls' := [some (.ref a), some (.int x59), some (.int (nI w)), some (.int (nI k))]) rfl dX12_looksOf_50 (Nat.le_of_ble_eq_true rfl) rfl ?_
      refine r_iinc (y := nI (k + 1)) (ls' := [some (.ref a), some (.int x59), some (.int (nI w)), some (.int (nI (k + 1)))]) rfl dX12_looksOf_51 rfl (nI_1 k) (Nat.le_of_ble_eq_true rfl) rfl ?_
      refine r_goto (pc' := 13) rfl dX12_looksOf_54 ?_
      subst e60
      rw [lk1, if_neg (fun q => c58 ((hs_wO hA hxw).mpr q.2))] at ih
      exact ih h hS hF fa
    · refine r_iconst (v := 1) rfl dX12_looksOf_42 (by decide) ?_
      refine r_iload_n rfl dX12_looksOf_43 rfl ?_
      refine r_ishl rfl dX12_looksOf_44 ?_
      refine r_goto (pc' := 49) rfl dX12_looksOf_45 ?_
      refine r_ior rfl dX12_looksOf_49 ?_
      refine r_topi (fun x61 e62 => ?_)
      refine r_istore_n (ls' := [some (.ref a), some (.int x61), some (.int (nI w)), some (.int (nI k))]) rfl dX12_looksOf_50 (Nat.le_of_ble_eq_true rfl) rfl ?_
      refine r_iinc (y := nI (k + 1)) (ls' := [some (.ref a), some (.int x61), some (.int (nI w)), some (.int (nI (k + 1)))]) rfl dX12_looksOf_51 rfl (nI_1 k) (Nat.le_of_ble_eq_true rfl) rfl ?_
      refine r_goto (pc' := 13) rfl dX12_looksOf_54 ?_
      subst e62
      rw [lk1, if_pos ⟨Decidable.byContradiction (fun z => c53 ((hs_wO hA hw).mpr z)), (hs_wO hA hxw).mp c58⟩] at ih
      exact ih h hS hF fa
theorem z_lki {xs : Nat → Int32} {L d : Nat} {h0 : ev_H} {a w : Nat} {A : Nat → Int64} {P : Nat → Bool} {acc : Int32} {Q : ev_Q} (hb1 : 2 ≤ a ∧ a < 434) (hA : ∀ p, p < 4 → A p = wO P p) (hw : w < 256) (kx : ∀ h' : ev_H, SH h' → KM [] h0 h' → h' a = .inl (1, 4, .inr (.inl A)) → EV xs L (d + 1) 0 0 M_X12_looksOf 434 h' 57 [some (.ref a), some (.int (lk1 P w 8 acc)), some (.int (nI w)), some (.int (nI 8))] [] Q) : ∀ (nn k : Nat) (h : ev_H), k + nn = 8 → SH h → KM [] h0 h → h a = .inl (1, 4, .inr (.inl A)) → EV xs L (d + 1) 0 0 M_X12_looksOf 434 h 13 [some (.ref a), some (.int (lk1 P w (k) acc)), some (.int (nI w)), some (.int (nI k))] [] Q := by
  intro nn
  induction nn with
  | zero => intro k h hk hS hF fa; exact z_lki_z hS hb1 hA hw kx hF fa (by omega)
  | succ nn ih => intro k h hk hS hF fa; exact z_lki_s hS hb1 hA hw kx hF fa (by omega) (fun h' q0 q1 q2 => ih (k + 1) h' (by omega) q0 q1 q2)
set_option maxRecDepth 20000 in
set_option maxHeartbeats 1000000 in
theorem z_lko_z {xs : Nat → Int32} {L d : Nat} {h : ev_H} {h0 : ev_H} {a : Nat} {A : Nat → Int64} {P : Nat → Bool} {k : Nat} {u3 : Option Value} (hS : SH h) (hb1 : 2 ≤ a ∧ a < 434) (hA : ∀ p, p < 4 → A p = wO P p) (hF : KM [] h0 h) (fa : h a = .inl (1, 4, .inr (.inl A))) (hk : k = 256) : EV xs L (d + 1) 0 0 M_X12_looksOf 434 h 4 [some (.ref a), some (.int (lkO P (k))), some (.int (nI k)), u3] [] (fun sz' h' r => sz' = 434 ∧ SH h' ∧ KM [] h0 h' ∧ r = [.int (lkO P 256)]) := by
  refine r_iload_n rfl dX12_looksOf_4 rfl ?_
  refine r_sipush (v := 256) rfl dX12_looksOf_5 (by decide) ?_
  refine r_icmp_ge (tgt := 63) rfl rfl dX12_looksOf_8 (fun _ => ?_) (fun zc => absurd (show nI (256) ≤ nI k from nI_le (a := 256) (b := k) (by omega) (by omega)) zc)
  refine r_iload_n rfl dX12_looksOf_63 rfl ?_
  subst hk
  exact r_ret dX12_looksOf_64 (rt_i rfl) ⟨rfl, hS, hF, rfl⟩
set_option maxRecDepth 20000 in
set_option maxHeartbeats 1000000 in
theorem z_lko_s {xs : Nat → Int32} {L d : Nat} {h : ev_H} {h0 : ev_H} {a : Nat} {A : Nat → Int64} {P : Nat → Bool} {k : Nat} {u3 : Option Value} (hS : SH h) (hb1 : 2 ≤ a ∧ a < 434) (hA : ∀ p, p < 4 → A p = wO P p) (hF : KM [] h0 h) (fa : h a = .inl (1, 4, .inr (.inl A))) (hk : k < 256) (ih : ∀ (h' : ev_H) (u3' : Option Value), SH h' → KM [] h0 h' → h' a = .inl (1, 4, .inr (.inl A)) → EV xs L (d + 1) 0 0 M_X12_looksOf 434 h' 4 [some (.ref a), some (.int (lkO P (k + 1))), some (.int (nI (k + 1))), u3'] [] (fun sz' h' r => sz' = 434 ∧ SH h' ∧ KM [] h0 h' ∧ r = [.int (lkO P 256)])) : EV xs L (d + 1) 0 0 M_X12_looksOf 434 h 4 [some (.ref a), some (.int (lkO P (k))), some (.int (nI k)), u3] [] (fun sz' h' r => sz' = 434 ∧ SH h' ∧ KM [] h0 h' ∧ r = [.int (lkO P 256)]) := by
  refine r_iload_n rfl dX12_looksOf_4 rfl ?_
  refine r_sipush (v := 256) rfl dX12_looksOf_5 (by decide) ?_
  refine r_icmp_ge (tgt := 63) rfl rfl dX12_looksOf_8 (fun zc => absurd zc (show ¬ nI (256) ≤ nI k from nI_ge (a := k) (b := 256) (by omega) (by omega))) (fun _ => ?_)
  refine r_iconst (v := 0) rfl dX12_looksOf_11 (by decide) ?_
  refine r_istore_n (ls' := [some (.ref a), some (.int (lkO P (k))), some (.int (nI k)), some (.int 0)]) rfl dX12_looksOf_12 (Nat.le_of_ble_eq_true rfl) rfl ?_
  refine z_lki (w := k) (acc := lkO P (k)) (h0 := h) hb1 hA (by omega) ?_ 8 0 h rfl hS (KM_rf _) fa
  intro h51 hS52 hF53 f54
  have hF55 := KM_tr hF hF53
  refine r_iinc (y := nI (k + 1)) (ls' := [some (.ref a), some (.int (lk1 P k 8 (lkO P (k)))), some (.int (nI (k + 1))), some (.int (nI 8))]) rfl dX12_looksOf_57 rfl (nI_1 k) (Nat.le_of_ble_eq_true rfl) rfl ?_
  refine r_goto (pc' := 4) rfl dX12_looksOf_60 ?_
  exact ih h51 _ hS52 hF55 f54
theorem z_lko {xs : Nat → Int32} {L d : Nat} {h0 : ev_H} {a : Nat} {A : Nat → Int64} {P : Nat → Bool} (hb1 : 2 ≤ a ∧ a < 434) (hA : ∀ p, p < 4 → A p = wO P p) : ∀ (nn k : Nat) (h : ev_H) (u3 : Option Value), k + nn = 256 → SH h → KM [] h0 h → h a = .inl (1, 4, .inr (.inl A)) → EV xs L (d + 1) 0 0 M_X12_looksOf 434 h 4 [some (.ref a), some (.int (lkO P (k))), some (.int (nI k)), u3] [] (fun sz' h' r => sz' = 434 ∧ SH h' ∧ KM [] h0 h' ∧ r = [.int (lkO P 256)]) := by
  intro nn
  induction nn with
  | zero => intro k h u3 hk hS hF fa; exact z_lko_z hS hb1 hA hF fa (by omega)
  | succ nn ih => intro k h u3 hk hS hF fa; exact z_lko_s hS hb1 hA hF fa (by omega) (fun h' u3 q0 q1 q2 => ih (k + 1) h' u3 (by omega) q0 q1 q2)
set_option maxRecDepth 20000 in
set_option maxHeartbeats 1000000 in
theorem z_X12_looksOf {xs : Nat → Int32} {L d : Nat} {h : ev_H} {a : Nat} {A : Nat → Int64} {P : Nat → Bool} (hS : SH h) (hb1 : 2 ≤ a ∧ a < 434) (hA : ∀ p, p < 4 → A p = wO P p) (fa : h a = cL 4 A) : EV xs L (d + 1) 0 0 M_X12_looksOf 434 h 0 [some (.ref a), none, none, none] [] (fun sz' h' r => sz' = 434 ∧ SH h' ∧ KM [] h h' ∧ r = [.int (lkO P 256)]) := by
  refine r_iconst (v := 0) rfl dX12_looksOf_0 (by decide) ?_
  refine r_istore_n (ls' := [some (.ref a), some (.int 0), none, none]) rfl dX12_looksOf_1 (Nat.le_of_ble_eq_true rfl) rfl ?_
  refine r_iconst (v := 0) rfl dX12_looksOf_2 (by decide) ?_
  refine r_istore_n (ls' := [some (.ref a), some (.int 0), some (.int 0), none]) rfl dX12_looksOf_3 (Nat.le_of_ble_eq_true rfl) rfl ?_
  exact z_lko hb1 hA 256 0 h _ rfl hS (KM_rf (Mod := []) h) fa
