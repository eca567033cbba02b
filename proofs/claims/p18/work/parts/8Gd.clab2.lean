def liC (G : Nat → Int32) (i : Nat) : Int32 := bc32 (G (6 * i)) + bc32 (G (6 * i + 1))
def leC (G : Nat → Int32) (Y : Nat → Int64) (i : Nat) : Int32 := liC G i + wsz (Y (160 * 0 + 4 * i + 0)) (Y (160 * 0 + 4 * i + 1)) (Y (160 * 0 + 4 * i + 2)) (Y (160 * 0 + 4 * i + 3))
def lbK (G : Nat → Int32) (Y : Nat → Int64) (k : Nat) (x y : Int32) : Int32 := if inR x 0 3 = 0 then -1 else if inR y 0 (nI k - 1) = 0 then -1 else if x = 0 then liC G y.toNatClampNeg else if x = 1 then leC G Y y.toNatClampNeg else if x = 2 then 2 * liC G y.toNatClampNeg + 1 else leC G Y y.toNatClampNeg / 2
set_option maxRecDepth 20000 in
set_option maxHeartbeats 1000000 in
theorem v_X11_labour {xs : Nat → Int32} {L d : Nat} {h : ev_H} {k : Nat} {cc sc wr el : Int32} {G : Nat → Int32} {Y : Nat → Int64} {x y : Int32} {s : Int64} (hS : SH h) (h2 : h 2 = c2 cc (nI k) sc wr el) (hk : k ≤ 40) (hck : k ≤ 40) (hLN : LN k G h) (f95 : h 95 = .inr (9, [.long s])) (hSW : SWc k Y h) : EV xs L (d + 5) 0 0 M_X11_labour 434 h 0 [some (.ref 2), some (.int x), some (.int y), none, none] [] (fun sz' h' r => sz' = 434 ∧ SH h' ∧ KM [95] h h' ∧ h' 95 = .inr (9, [.long (lbT x y k s)]) ∧ r = [.int (lbK G Y k x y)]) := by
  refine r_aload_n rfl dX11_labour_0 rfl ?_
  refine r_iload_n rfl dX11_labour_1 rfl ?_
  refine cl_X11_203 rfl rfl dX11_labour_2 (show 2 ≤ 2 ∧ 2 < 434 by decide).1 (show 2 ≤ 2 ∧ 2 < 434 by decide).2 h2 (Nat.le_of_ble_eq_true rfl) (x_X11_ruleOf hS h2 hk) ?_
  rintro _ h51 _ ⟨rfl, e52, ⟨q53, hq54, ex55, rfl⟩ | ⟨ho56, rfl⟩⟩
  · replace e52 := e52.symm
    subst e52
    obtain rfl | rfl | rfl | rfl : q53 = 0 ∨ q53 = 1 ∨ q53 = 2 ∨ q53 = 3 := by omega
    · subst ex55
      refine r_astore_n (ls' := [some (.ref 2), some (.int (nI 0)), some (.int y), some (.ref 96), none]) rfl dX11_labour_5 (Nat.le_of_ble_eq_true rfl) rfl ?_
      refine r_aload_n rfl dX11_labour_6 rfl ?_
      refine r_iload_n rfl dX11_labour_7 rfl ?_
      refine cl_X11_121 rfl rfl dX11_labour_8 (show 2 ≤ 2 ∧ 2 < 434 by decide).1 (show 2 ≤ 2 ∧ 2 < 434 by decide).2 h2 (Nat.le_of_ble_eq_true rfl) (x_X11_lineAt hS h2 hk) ?_
      rintro _ h57 _ ⟨rfl, e58, ⟨n59, hn60, ex61, rfl⟩ | ⟨hno62, rfl⟩⟩
      · replace e58 := e58.symm
        subst e58
        subst ex61
        refine r_astore (ls' := [some (.ref 2), some (.int (nI 0)), some (.int (nI n59)), some (.ref 96), some (.ref (100 + 8 * n59))]) rfl dX11_labour_11 (Nat.le_of_ble_eq_true rfl) rfl ?_
        refine r_aload_n rfl dX11_labour_13 rfl ?_
        refine r_ifnull rfl (by decide) dX11_labour_14 ?_
        refine r_aload rfl dX11_labour_17 rfl ?_
        refine r_ifnonnull (tgt := 26) rfl dX11_labour_19 ?_
        refine r_aload_n rfl dX11_labour_26 rfl ?_
        refine r_aload rfl dX11_labour_27 rfl ?_
        refine r_aload_n rfl dX11_labour_29 rfl ?_
        refine r_getv 6 rfl dX11_labour_30 (show 2 ≤ 2 ∧ 2 < 434 by decide) h2 fl_X11_53 rfl ?_
        have w63 := hSW n59 (by omega) 0 (by omega)
        refine cl_X11_207 rfl rfl dX11_labour_33 (show 2 ≤ 96 ∧ 96 < 434 by decide).1 (show 2 ≤ 96 ∧ 96 < 434 by decide).2 hS.o96 (Nat.le_of_ble_eq_true rfl) (v_X6_work (t := 96) hS (by decide) (i := n59) (by omega) (hLN n59 (by omega)) w63 f95) ?_
        rintro _ h64 _ ⟨rfl, hS65, hk66, f67, rfl⟩
        have hF68 := KM_tr (KM_rf (Mod := [95]) h) hk66
        have f69 : h64 (2) = .inr (11, [.ref 3, .ref 5, .ref 12, .ref 13, .ref 24, .ref 93, .ref 95, .ref 96, .ref 97, .ref 98, .ref 99, .int cc, .int (nI k), .int sc, .int wr, .int el]) := (hk66 _ (by simp <;> omega)).trans h2
        have w70 : WD h64 (102 + 8 * n59 + 2 * 0) (fun p => Y (160 * 0 + 4 * n59 + p)) := WD_M hk66 (by simp <;> omega) w63
        exact r_ret dX11_labour_36 (rt_i rfl) ⟨rfl, hS65, hF68, (by rw [lbT, if_neg (by decide), if_neg (inR_in hk hn60)]; rw [f67]; exact lab_0), (by rw [lbK, if_neg (by decide), if_neg (inR_in hk hn60), if_pos (by decide), nI_clamp (by omega)] <;> rfl)⟩
      · replace e58 := e58.symm
        subst e58
        refine r_astoreN (ls' := [some (.ref 2), some (.int (nI 0)), some (.int y), some (.ref 96), some (.null)]) rfl dX11_labour_11 (Nat.le_of_ble_eq_true rfl) rfl ?_
        refine r_aload_n rfl dX11_labour_13 rfl ?_
        refine r_ifnull rfl (by decide) dX11_labour_14 ?_
        refine r_aloadN rfl dX11_labour_17 rfl ?_
        refine r_ifnonnullN rfl (by decide) dX11_labour_19 ?_
        refine r_iconst (v := (-1)) rfl dX11_labour_22 (by decide) ?_
        refine r_goto (pc' := 36) rfl dX11_labour_23 ?_
        exact r_ret dX11_labour_36 (rt_i rfl) ⟨rfl, hS, (KM_rf (Mod := [95]) h), (by rw [lbT, if_neg (by decide), if_pos (inR_ln hk hno62)]; exact f95), (by rw [lbK, if_neg (by decide), if_pos (inR_ln hk hno62)] <;> rfl)⟩
    · subst ex55
      refine r_astore_n (ls' := [some (.ref 2), some (.int (nI 1)), some (.int y), some (.ref 97), none]) rfl dX11_labour_5 (Nat.le_of_ble_eq_true rfl) rfl ?_
      refine r_aload_n rfl dX11_labour_6 rfl ?_
      refine r_iload_n rfl dX11_labour_7 rfl ?_
      refine cl_X11_121 rfl rfl dX11_labour_8 (show 2 ≤ 2 ∧ 2 < 434 by decide).1 (show 2 ≤ 2 ∧ 2 < 434 by decide).2 h2 (Nat.le_of_ble_eq_true rfl) (x_X11_lineAt hS h2 hk) ?_
      rintro _ h71 _ ⟨rfl, e72, ⟨n73, hn74, ex75, rfl⟩ | ⟨hno76, rfl⟩⟩
      · replace e72 := e72.symm
        subst e72
        subst ex75
        refine r_astore (ls' := [some (.ref 2), some (.int (nI 1)), some (.int (nI n73)), some (.ref 97), some (.ref (100 + 8 * n73))]) rfl dX11_labour_11 (Nat.le_of_ble_eq_true rfl) rfl ?_
        refine r_aload_n rfl dX11_labour_13 rfl ?_
        refine r_ifnull rfl (by decide) dX11_labour_14 ?_
        refine r_aload rfl dX11_labour_17 rfl ?_
        refine r_ifnonnull (tgt := 26) rfl dX11_labour_19 ?_
        refine r_aload_n rfl dX11_labour_26 rfl ?_
        refine r_aload rfl dX11_labour_27 rfl ?_
        refine r_aload_n rfl dX11_labour_29 rfl ?_
        refine r_getv 6 rfl dX11_labour_30 (show 2 ≤ 2 ∧ 2 < 434 by decide) h2 fl_X11_53 rfl ?_
        have w77 := hSW n73 (by omega) 0 (by omega)
        refine cl_X11_207_X2 rfl rfl dX11_labour_33 (show 2 ≤ 97 ∧ 97 < 434 by decide).1 (show 2 ≤ 97 ∧ 97 < 434 by decide).2 hS.o97 (Nat.le_of_ble_eq_true rfl) (v_X2_work (t := 97) hS (by decide) (i := n73) (by omega) (hLN n73 (by omega)) w77 (q := (RX2, TX2, 0)) rfl (fun _ z => z.o97) f95) ?_
        rintro _ h78 _ ⟨rfl, hS79, hk80, f81, rfl⟩
        have hF82 := KM_tr (KM_rf (Mod := [95]) h) hk80
        have f83 : h78 (2) = .inr (11, [.ref 3, .ref 5, .ref 12, .ref 13, .ref 24, .ref 93, .ref 95, .ref 96, .ref 97, .ref 98, .ref 99, .int cc, .int (nI k), .int sc, .int wr, .int el]) := (hk80 _ (by simp <;> omega)).trans h2
        have w84 : WD h78 (102 + 8 * n73 + 2 * 0) (fun p => Y (160 * 0 + 4 * n73 + p)) := WD_M hk80 (by simp <;> omega) w77
        exact r_ret dX11_labour_36 (rt_i rfl) ⟨rfl, hS79, hF82, (by rw [lbT, if_neg (by decide), if_neg (inR_in hk hn74)]; rw [f81]; exact lab_1), (by rw [lbK, if_neg (by decide), if_neg (inR_in hk hn74), if_neg (by decide), if_pos (by decide), nI_clamp (by omega)] <;> rfl)⟩
      · replace e72 := e72.symm
        subst e72
        refine r_astoreN (ls' := [some (.ref 2), some (.int (nI 1)), some (.int y), some (.ref 97), some (.null)]) rfl dX11_labour_11 (Nat.le_of_ble_eq_true rfl) rfl ?_
        refine r_aload_n rfl dX11_labour_13 rfl ?_
        refine r_ifnull rfl (by decide) dX11_labour_14 ?_
        refine r_aloadN rfl dX11_labour_17 rfl ?_
        refine r_ifnonnullN rfl (by decide) dX11_labour_19 ?_
        refine r_iconst (v := (-1)) rfl dX11_labour_22 (by decide) ?_
        refine r_goto (pc' := 36) rfl dX11_labour_23 ?_
        exact r_ret dX11_labour_36 (rt_i rfl) ⟨rfl, hS, (KM_rf (Mod := [95]) h), (by rw [lbT, if_neg (by decide), if_pos (inR_ln hk hno76)]; exact f95), (by rw [lbK, if_neg (by decide), if_pos (inR_ln hk hno76)] <;> rfl)⟩
    · subst ex55
      refine r_astore_n (ls' := [some (.ref 2), some (.int (nI 2)), some (.int y), some (.ref 98), none]) rfl dX11_labour_5 (Nat.le_of_ble_eq_true rfl) rfl ?_
      refine r_aload_n rfl dX11_labour_6 rfl ?_
      refine r_iload_n rfl dX11_labour_7 rfl ?_
      refine cl_X11_121 rfl rfl dX11_labour_8 (show 2 ≤ 2 ∧ 2 < 434 by decide).1 (show 2 ≤ 2 ∧ 2 < 434 by decide).2 h2 (Nat.le_of_ble_eq_true rfl) (x_X11_lineAt hS h2 hk) ?_
      rintro _ h85 _ ⟨rfl, e86, ⟨n87, hn88, ex89, rfl⟩ | ⟨hno90, rfl⟩⟩
      · replace e86 := e86.symm
        subst e86
        subst ex89
        refine r_astore (ls' := [some (.ref 2), some (.int (nI 2)), some (.int (nI n87)), some (.ref 98), some (.ref (100 + 8 * n87))]) rfl dX11_labour_11 (Nat.le_of_ble_eq_true rfl) rfl ?_
        refine r_aload_n rfl dX11_labour_13 rfl ?_
        refine r_ifnull rfl (by decide) dX11_labour_14 ?_
        refine r_aload rfl dX11_labour_17 rfl ?_
        refine r_ifnonnull (tgt := 26) rfl dX11_labour_19 ?_
        refine r_aload_n rfl dX11_labour_26 rfl ?_
        refine r_aload rfl dX11_labour_27 rfl ?_
        refine r_aload_n rfl dX11_labour_29 rfl ?_
        refine r_getv 6 rfl dX11_labour_30 (show 2 ≤ 2 ∧ 2 < 434 by decide) h2 fl_X11_53 rfl ?_
        have w91 := hSW n87 (by omega) 0 (by omega)
        refine cl_X11_207_X5 rfl rfl dX11_labour_33 (show 2 ≤ 98 ∧ 98 < 434 by decide).1 (show 2 ≤ 98 ∧ 98 < 434 by decide).2 hS.o98 (Nat.le_of_ble_eq_true rfl) (v_X5_work (t := 98) hS (by decide) (i := n87) (by omega) (hLN n87 (by omega)) w91 (q := (RX5, TX5, 0)) rfl (fun _ z => z.o98) f95) ?_
        rintro _ h92 _ ⟨rfl, hS93, hk94, f95, rfl⟩
        have hF96 := KM_tr (KM_rf (Mod := [95]) h) hk94
        have f97 : h92 (2) = .inr (11, [.ref 3, .ref 5, .ref 12, .ref 13, .ref 24, .ref 93, .ref 95, .ref 96, .ref 97, .ref 98, .ref 99, .int cc, .int (nI k), .int sc, .int wr, .int el]) := (hk94 _ (by simp <;> omega)).trans h2
        have w98 : WD h92 (102 + 8 * n87 + 2 * 0) (fun p => Y (160 * 0 + 4 * n87 + p)) := WD_M hk94 (by simp <;> omega) w91
        exact r_ret dX11_labour_36 (rt_i rfl) ⟨rfl, hS93, hF96, (by rw [lbT, if_neg (by decide), if_neg (inR_in hk hn88)]; rw [f95]; exact lab_2), (by rw [lbK, if_neg (by decide), if_neg (inR_in hk hn88), if_neg (by decide), if_neg (by decide), if_pos (by decide), nI_clamp (by omega)] <;> rfl)⟩
      · replace e86 := e86.symm
        subst e86
        refine r_astoreN (ls' := [some (.ref 2), some (.int (nI 2)), some (.int y), some (.ref 98), some (.null)]) rfl dX11_labour_11 (Nat.le_of_ble_eq_true rfl) rfl ?_
        refine r_aload_n rfl dX11_labour_13 rfl ?_
        refine r_ifnull rfl (by decide) dX11_labour_14 ?_
        refine r_aloadN rfl dX11_labour_17 rfl ?_
        refine r_ifnonnullN rfl (by decide) dX11_labour_19 ?_
        refine r_iconst (v := (-1)) rfl dX11_labour_22 (by decide) ?_
        refine r_goto (pc' := 36) rfl dX11_labour_23 ?_
        exact r_ret dX11_labour_36 (rt_i rfl) ⟨rfl, hS, (KM_rf (Mod := [95]) h), (by rw [lbT, if_neg (by decide), if_pos (inR_ln hk hno90)]; exact f95), (by rw [lbK, if_neg (by decide), if_pos (inR_ln hk hno90)] <;> rfl)⟩
    · subst ex55
      refine r_astore_n (ls' := [some (.ref 2), some (.int (nI 3)), some (.int y), some (.ref 99), none]) rfl dX11_labour_5 (Nat.le_of_ble_eq_true rfl) rfl ?_
      refine r_aload_n rfl dX11_labour_6 rfl ?_
      refine r_iload_n rfl dX11_labour_7 rfl ?_
      refine cl_X11_121 rfl rfl dX11_labour_8 (show 2 ≤ 2 ∧ 2 < 434 by decide).1 (show 2 ≤ 2 ∧ 2 < 434 by decide).2 h2 (Nat.le_of_ble_eq_true rfl) (x_X11_lineAt hS h2 hk) ?_
      rintro _ h99 _ ⟨rfl, e100, ⟨n101, hn102, ex103, rfl⟩ | ⟨hno104, rfl⟩⟩
      · replace e100 := e100.symm
        subst e100
        subst ex103
        refine r_astore (ls' := [some (.ref 2), some (.int (nI 3)), some (.int (nI n101)), some (.ref 99), some (.ref (100 + 8 * n101))]) rfl dX11_labour_11 (Nat.le_of_ble_eq_true rfl) rfl ?_
        refine r_aload_n rfl dX11_labour_13 rfl ?_
        refine r_ifnull rfl (by decide) dX11_labour_14 ?_
        refine r_aload rfl dX11_labour_17 rfl ?_
        refine r_ifnonnull (tgt := 26) rfl dX11_labour_19 ?_
        refine r_aload_n rfl dX11_labour_26 rfl ?_
        refine r_aload rfl dX11_labour_27 rfl ?_
        refine r_aload_n rfl dX11_labour_29 rfl ?_
        refine r_getv 6 rfl dX11_labour_30 (show 2 ≤ 2 ∧ 2 < 434 by decide) h2 fl_X11_53 rfl ?_
        have w105 := hSW n101 (by omega) 0 (by omega)
        refine cl_X11_207_X1 rfl rfl dX11_labour_33 (show 2 ≤ 99 ∧ 99 < 434 by decide).1 (show 2 ≤ 99 ∧ 99 < 434 by decide).2 hS.o99 (Nat.le_of_ble_eq_true rfl) (v_X1_work (t := 99) hS (by decide) (i := n101) (by omega) (hLN n101 (by omega)) w105 (q := (RX1, TX1, 0)) rfl (fun _ z => z.o99) f95) ?_
        rintro _ h106 _ ⟨rfl, hS107, hk108, f109, rfl⟩
        have hF110 := KM_tr (KM_rf (Mod := [95]) h) hk108
        have f111 : h106 (2) = .inr (11, [.ref 3, .ref 5, .ref 12, .ref 13, .ref 24, .ref 93, .ref 95, .ref 96, .ref 97, .ref 98, .ref 99, .int cc, .int (nI k), .int sc, .int wr, .int el]) := (hk108 _ (by simp <;> omega)).trans h2
        have w112 : WD h106 (102 + 8 * n101 + 2 * 0) (fun p => Y (160 * 0 + 4 * n101 + p)) := WD_M hk108 (by simp <;> omega) w105
        exact r_ret dX11_labour_36 (rt_i rfl) ⟨rfl, hS107, hF110, (by rw [lbT, if_neg (by decide), if_neg (inR_in hk hn102)]; rw [f109]; exact lab_3), (by rw [lbK, if_neg (by decide), if_neg (inR_in hk hn102), if_neg (by decide), if_neg (by decide), if_neg (by decide), nI_clamp (by omega)] <;> rfl)⟩
      · replace e100 := e100.symm
        subst e100
        refine r_astoreN (ls' := [some (.ref 2), some (.int (nI 3)), some (.int y), some (.ref 99), some (.null)]) rfl dX11_labour_11 (Nat.le_of_ble_eq_true rfl) rfl ?_
        refine r_aload_n rfl dX11_labour_13 rfl ?_
        refine r_ifnull rfl (by decide) dX11_labour_14 ?_
        refine r_aloadN rfl dX11_labour_17 rfl ?_
        refine r_ifnonnullN rfl (by decide) dX11_labour_19 ?_
        refine r_iconst (v := (-1)) rfl dX11_labour_22 (by decide) ?_
        refine r_goto (pc' := 36) rfl dX11_labour_23 ?_
        exact r_ret dX11_labour_36 (rt_i rfl) ⟨rfl, hS, (KM_rf (Mod := [95]) h), (by rw [lbT, if_neg (by decide), if_pos (inR_ln hk hno104)]; exact f95), (by rw [lbK, if_neg (by decide), if_pos (inR_ln hk hno104)] <;> rfl)⟩
  · replace e52 := e52.symm
    subst e52
    refine r_astore_nN (ls' := [some (.ref 2), some (.int x), some (.int y), some (.null), none]) rfl dX11_labour_5 (Nat.le_of_ble_eq_true rfl) rfl ?_
    refine r_aload_n rfl dX11_labour_6 rfl ?_
    refine r_iload_n rfl dX11_labour_7 rfl ?_
    refine cl_X11_121 rfl rfl dX11_labour_8 (show 2 ≤ 2 ∧ 2 < 434 by decide).1 (show 2 ≤ 2 ∧ 2 < 434 by decide).2 h2 (Nat.le_of_ble_eq_true rfl) (x_X11_lineAt hS h2 hk) ?_
    rintro _ h113 _ ⟨rfl, e114, ⟨n115, hn116, ex117, rfl⟩ | ⟨hno118, rfl⟩⟩
    · replace e114 := e114.symm
      subst e114
      subst ex117
      refine r_astore (ls' := [some (.ref 2), some (.int x), some (.int (nI n115)), some (.null), some (.ref (100 + 8 * n115))]) rfl dX11_labour_11 (Nat.le_of_ble_eq_true rfl) rfl ?_
      refine r_aload_nN rfl dX11_labour_13 rfl ?_
      refine r_ifnullN (tgt := 22) rfl dX11_labour_14 ?_
      refine r_iconst (v := (-1)) rfl dX11_labour_22 (by decide) ?_
      refine r_goto (pc' := 36) rfl dX11_labour_23 ?_
      exact r_ret dX11_labour_36 (rt_i rfl) ⟨rfl, hS, (KM_rf (Mod := [95]) h), (by rw [lbT, if_pos (inR_out ho56)]; exact f95), (by rw [lbK, if_pos (inR_out ho56)] <;> rfl)⟩
    · replace e114 := e114.symm
      subst e114
      refine r_astoreN (ls' := [some (.ref 2), some (.int x), some (.int y), some (.null), some (.null)]) rfl dX11_labour_11 (Nat.le_of_ble_eq_true rfl) rfl ?_
      refine r_aload_nN rfl dX11_labour_13 rfl ?_
      refine r_ifnullN (tgt := 22) rfl dX11_labour_14 ?_
      refine r_iconst (v := (-1)) rfl dX11_labour_22 (by decide) ?_
      refine r_goto (pc' := 36) rfl dX11_labour_23 ?_
      exact r_ret dX11_labour_36 (rt_i rfl) ⟨rfl, hS, (KM_rf (Mod := [95]) h), (by rw [lbT, if_pos (inR_out ho56)]; exact f95), (by rw [lbK, if_pos (inR_out ho56)] <;> rfl)⟩
theorem li_eq {c m i : Nat} {G : Nat → Int32} (hG : GV c m G) (hi : i < c + m) : liC G i = liM G i := by
  obtain ⟨⟨a, ha, ea⟩, b, hb, eb⟩ := hG.1 i hi
  unfold liC liM
  rw [ea, eb, bc8 ⟨a, ha⟩, bc8 ⟨b, hb⟩, on8 ⟨a, ha⟩, on8 ⟨b, hb⟩]
theorem le_eq {c m i : Nat} {G : Nat → Int32} {Y Y' : Nat → Int64} (hG : GV c m G) (hi : i < c + m) (hy : ∀ p, p < 4 → Y (160 * 0 + 4 * i + p) = Y' (160 * 0 + 4 * i + p)) : leC G Y i = leM G Y' i := by
  unfold leC leM
  rw [li_eq hG hi, wsz_mn (fun p => Y (160 * 0 + 4 * i + p))]
  rw [mnN_cg (A := fun p => Y (160 * 0 + 4 * i + p)) (B := fun p => Y' (4 * i + p)) 256 (by omega) (fun p hp => by rw [hy p hp, show 160 * 0 + 4 * i + p = 4 * i + p by omega])]
theorem leM_cg {i : Nat} {G : Nat → Int32} {Y Y' : Nat → Int64} (hy : ∀ p, p < 4 → Y (160 * 0 + 4 * i + p) = Y' (160 * 0 + 4 * i + p)) : leM G Y i = leM G Y' i := by
  unfold leM
  rw [mnN_cg (A := fun p => Y (4 * i + p)) (B := fun p => Y' (4 * i + p)) 256 (by omega) (fun p hp => by have := hy p hp; rw [show 160 * 0 + 4 * i + p = 4 * i + p by omega] at this; exact this)]
theorem lbK_N {c m : Nat} {G : Nat → Int32} {Y Y' : Nat → Int64} {x y : Int32} (hcm : c + m ≤ 40) (hG : GV c m G) (hy : ∀ i, i < c + m → ∀ p, p < 4 → Y (160 * 0 + 4 * i + p) = Y' (160 * 0 + 4 * i + p)) : lbK G Y (c + m) x y = lbN G Y' (c + m) x y := by
  unfold lbK lbN
  by_cases h1 : inR x 0 3 = 0
  · rw [if_pos h1, if_pos h1]
  · rw [if_neg h1, if_neg h1]
    by_cases h2 : inR y 0 (nI (c + m) - 1) = 0
    · rw [if_pos h2, if_pos h2]
    · rw [if_neg h2, if_neg h2]
      obtain ⟨i, hi, rfl⟩ := isLn (n := c + m) (by omega) h2
      rw [nI_clamp (by omega), li_eq hG hi, le_eq hG hi (hy i hi)]
theorem lbN_N {c m : Nat} {G : Nat → Int32} {Y Y' : Nat → Int64} {x y : Int32} (hcm : c + m ≤ 40) (hy : ∀ i, i < c + m → ∀ p, p < 4 → Y (160 * 0 + 4 * i + p) = Y' (160 * 0 + 4 * i + p)) : lbN G Y (c + m) x y = lbN G Y' (c + m) x y := by
  unfold lbN
  by_cases h1 : inR x 0 3 = 0
  · rw [if_pos h1, if_pos h1]
  · rw [if_neg h1, if_neg h1]
    by_cases h2 : inR y 0 (nI (c + m) - 1) = 0
    · rw [if_pos h2, if_pos h2]
    · rw [if_neg h2, if_neg h2]
      obtain ⟨i, hi, rfl⟩ := isLn (n := c + m) (by omega) h2
      rw [nI_clamp (by omega), leM_cg (hy i hi)]
