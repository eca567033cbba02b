set_option maxRecDepth 20000 in
set_option maxHeartbeats 1000000 in
theorem lp_X12_makes_400b {xs : Nat → Int32} {L d : Nat} {Q : ev_Q} {th : Int32} {tr : Int64} {ty nx tk pl va fa ss wg : Int32} {c m : Nat} {s i j : Nat} {bt le no : Int32} {xf8 : Int32} {xf9 : Int32} {k : Nat} {ka : Nat} {xf12 : Int64} {xf14 : Int64} {xf16 : Int32} {xf17 : Int64} {h0 : ev_H} (h5 : h0 420 = c420 th tr ty nx tk pl va fa (nI c) (nI m) ss wg) (hc : c ≤ 16) (hm : m ≤ 24) (hcm : c + m < 40) (hi : i < c + m) (hj : j < c + m) (hb_k : k < 3) (hb_ka : ka < 4) : ∀ (n kb : Nat), kb + n = 64 → ∀ (h : ev_H) (hS : SH h) (hF : KM [425, 426] h0 h) (y19 : Int64) (hK : ∀ (h : ev_H) (hS : SH h) (hF : KM [425, 426] h0 h) (kx : Int32) (y19 : Int64), EV xs L (d + 2) 0 0 M_X12_makes 434 h 440 [some (.ref 420), some (.int (nI s)), some (.int (nI i)), some (.int (nI j)), some (.int bt), some (.int le), some (.int no), some (.int (nI (c + m))), some (.int xf8), some (.int xf9), some (.int (nI k)), some (.int (nI ka)), some (.long xf12), none, some (.long xf14), none, some (.int xf16), some (.long xf17), none, some (.long y19), none, some (.int kx)] [] Q), EV xs L (d + 2) 0 0 M_X12_makes 434 h 400 [some (.ref 420), some (.int (nI s)), some (.int (nI i)), some (.int (nI j)), some (.int bt), some (.int le), some (.int no), some (.int (nI (c + m))), some (.int xf8), some (.int xf9), some (.int (nI k)), some (.int (nI ka)), some (.long xf12), none, some (.long xf14), none, some (.int xf16), some (.long xf17), none, some (.long y19), none, some (.int (nI kb))] [] Q := by
  intro n
  induction n with
  | zero =>
    intro kb hk h hS hF y19 hK
    refine r_iload rfl dX12_makes_400 rfl ?_
    refine r_bipush (v := 64) rfl dX12_makes_402 (by decide) ?_
    refine r_icmp_ge (tgt := 440) rfl rfl dX12_makes_404 (fun _ => ?_) (fun zc => absurd (show 64 ≤ nI kb from nI_le (a := 64) (b := kb) (by omega) (by omega)) zc)
    exact hK h hS hF (nI kb) y19
  | succ n ih =>
    intro kb hk h hS hF y19 hK
    refine r_iload rfl dX12_makes_400 rfl ?_
    refine r_bipush (v := 64) rfl dX12_makes_402 (by decide) ?_
    refine r_icmp_ge (tgt := 440) rfl rfl dX12_makes_404 (fun zc => absurd zc (show ¬ 64 ≤ nI kb from nI_ge (a := kb) (b := 64) (by omega) (by omega))) (fun _ => ?_)
    refine r_lload rfl dX12_makes_407 rfl ?_
    refine r_bipush (v := 64) rfl dX12_makes_409 (by decide) ?_
    refine r_iload rfl dX12_makes_411 rfl ?_
    refine r_imul rfl dX12_makes_413 ?_
    refine r_eqi (y := nI (64 * ka)) (show 64 * (nI ka) = nI (64 * ka) from pk_mul 64 ka) ?_
    refine r_iload rfl dX12_makes_414 rfl ?_
    refine r_iadd rfl dX12_makes_416 ?_
    refine r_eqi (y := nI ((64 * ka) + kb)) (show (nI (64 * ka)) + (nI kb) = nI ((64 * ka) + kb) from nI_add (64 * ka) kb) ?_
    refine r_iload rfl dX12_makes_417 rfl ?_
    refine r_iand rfl dX12_makes_419 ?_
    have J401 : ∀ v402 : Int64, EV xs L (d + 2) 0 0 M_X12_makes 434 h 431 [some (.ref 420), some (.int (nI s)), some (.int (nI i)), some (.int (nI j)), some (.int bt), some (.int le), some (.int no), some (.int (nI (c + m))), some (.int xf8), some (.int xf9), some (.int (nI k)), some (.int (nI ka)), some (.long xf12), none, some (.long xf14), none, some (.int xf16), some (.long xf17), none, some (.long y19), none, some (.int (nI kb))] (.long v402 :: .long y19 :: []) Q := by
      intro v402
      refine r_lor rfl dX12_makes_431 ?_
      refine r_topl (fun x403 e404 => ?_)
      refine r_lstore (ls' := [some (.ref 420), some (.int (nI s)), some (.int (nI i)), some (.int (nI j)), some (.int bt), some (.int le), some (.int no), some (.int (nI (c + m))), some (.int xf8), some (.int xf9), some (.int (nI k)), some (.int (nI ka)), some (.long xf12), none, some (.long xf14), none, some (.int xf16), some (.long xf17), none, some (.long x403), none, some (.int (nI kb))]) rfl dX12_makes_432 (Nat.le_of_ble_eq_true rfl) rfl ?_
      refine r_iinc (y := nI (kb + 1)) (ls' := [some (.ref 420), some (.int (nI s)), some (.int (nI i)), some (.int (nI j)), some (.int bt), some (.int le), some (.int no), some (.int (nI (c + m))), some (.int xf8), some (.int xf9), some (.int (nI k)), some (.int (nI ka)), some (.long xf12), none, some (.long xf14), none, some (.int xf16), some (.long xf17), none, some (.long x403), none, some (.int (nI (kb + 1)))]) rfl dX12_makes_434 rfl (nI_1 kb) (Nat.le_of_ble_eq_true rfl) rfl ?_
      refine r_goto (pc' := 400) rfl dX12_makes_437 ?_
      exact ih (kb + 1) (by omega) h hS hF x403 hK
    refine r_if_eq (tgt := 430) rfl rfl dX12_makes_420 (fun c405 => ?_) (fun c405 => ?_)
    · refine r_lconst (v := 0) rfl dX12_makes_430 (by decide) ?_
      exact J401 _
    · refine r_lconst (v := 1) rfl dX12_makes_423 (by decide) ?_
      refine r_iload rfl dX12_makes_424 rfl ?_
      refine r_lshl rfl dX12_makes_426 ?_
      refine r_goto (pc' := 431) rfl dX12_makes_427 ?_
      exact J401 _
set_option maxRecDepth 20000 in
set_option maxHeartbeats 1000000 in
theorem lp_X12_makes_284b {xs : Nat → Int32} {L d : Nat} {Q : ev_Q} {th : Int32} {tr : Int64} {ty nx tk pl va fa ss wg : Int32} {c m : Nat} {s i j : Nat} {bt le no : Int32} {xf8 : Int32} {xf9 : Int32} {k : Nat} {h0 : ev_H} (h5 : h0 420 = c420 th tr ty nx tk pl va fa (nI c) (nI m) ss wg) (hc : c ≤ 16) (hm : m ≤ 24) (hcm : c + m < 40) (hi : i < c + m) (hj : j < c + m) (hb_k : k < 3) : ∀ (n ka : Nat), ka + n = 4 → ∀ (h : ev_H) (hS : SH h) (hF : KM [425, 426] h0 h) (u12 : Option Value) (u12b : Option Value) (u14 : Option Value) (u14b : Option Value) (u16 : Option Value) (u17 : Option Value) (u17b : Option Value) (u19 : Option Value) (u19b : Option Value) (u21 : Option Value) (hK : ∀ (h : ev_H) (hS : SH h) (hF : KM [425, 426] h0 h) (kx : Int32) (u12 : Option Value) (u12b : Option Value) (u14 : Option Value) (u14b : Option Value) (u16 : Option Value) (u17 : Option Value) (u17b : Option Value) (u19 : Option Value) (u19b : Option Value) (u21 : Option Value), EV xs L (d + 2) 0 0 M_X12_makes 434 h 484 [some (.ref 420), some (.int (nI s)), some (.int (nI i)), some (.int (nI j)), some (.int bt), some (.int le), some (.int no), some (.int (nI (c + m))), some (.int xf8), some (.int xf9), some (.int (nI k)), some (.int kx), u12, u12b, u14, u14b, u16, u17, u17b, u19, u19b, u21] [] Q), EV xs L (d + 2) 0 0 M_X12_makes 434 h 284 [some (.ref 420), some (.int (nI s)), some (.int (nI i)), some (.int (nI j)), some (.int bt), some (.int le), some (.int no), some (.int (nI (c + m))), some (.int xf8), some (.int xf9), some (.int (nI k)), some (.int (nI ka)), u12, u12b, u14, u14b, u16, u17, u17b, u19, u19b, u21] [] Q := by
  intro n
  induction n with
  | zero =>
    intro ka hk h hS hF u12 u12b u14 u14b u16 u17 u17b u19 u19b u21 hK
    refine r_iload rfl dX12_makes_284 rfl ?_
    refine r_iconst (v := 4) rfl dX12_makes_286 (by decide) ?_
    refine r_icmp_ge (tgt := 484) rfl rfl dX12_makes_287 (fun _ => ?_) (fun zc => absurd (show 4 ≤ nI ka from nI_le (a := 4) (b := ka) (by omega) (by omega)) zc)
    exact hK h hS hF (nI ka) u12 u12b u14 u14b u16 u17 u17b u19 u19b u21
  | succ n ih =>
    intro ka hk h hS hF u12 u12b u14 u14b u16 u17 u17b u19 u19b u21 hK
    refine r_iload rfl dX12_makes_284 rfl ?_
    refine r_iconst (v := 4) rfl dX12_makes_286 (by decide) ?_
    refine r_icmp_ge (tgt := 484) rfl rfl dX12_makes_287 (fun zc => absurd zc (show ¬ 4 ≤ nI ka from nI_ge (a := ka) (b := 4) (by omega) (by omega))) (fun _ => ?_)
    refine r_aload_n rfl dX12_makes_290 rfl ?_
    refine r_getv 17 rfl dX12_makes_291 (show 2 ≤ 420 ∧ 420 < 434 by decide) ((hF 420 (by decide)).trans h5) fl_X12_30 rfl ?_
    refine r_sipush (v := 160) rfl dX12_makes_294 (by decide) ?_
    refine r_iload rfl dX12_makes_297 rfl ?_
    refine r_imul rfl dX12_makes_299 ?_
    refine r_eqi (y := nI (160 * k)) (show 160 * (nI k) = nI (160 * k) from pk_mul 160 k) ?_
    refine r_iconst (v := 4) rfl dX12_makes_300 (by decide) ?_
    refine r_iload_n rfl dX12_makes_301 rfl ?_
    refine r_imul rfl dX12_makes_302 ?_
    refine r_eqi (y := nI (4 * i)) (show 4 * (nI i) = nI (4 * i) from pk_mul 4 i) ?_
    refine r_iadd rfl dX12_makes_303 ?_
    refine r_eqi (y := nI ((160 * k) + (4 * i))) (show (nI (160 * k)) + (nI (4 * i)) = nI ((160 * k) + (4 * i)) from nI_add (160 * k) (4 * i)) ?_
    refine r_iload rfl dX12_makes_304 rfl ?_
    refine r_iadd rfl dX12_makes_306 ?_
    refine r_eqi (y := nI (((160 * k) + (4 * i)) + ka)) (show (nI ((160 * k) + (4 * i))) + (nI ka) = nI (((160 * k) + (4 * i)) + ka) from nI_add ((160 * k) + (4 * i)) ka) ?_
    obtain ⟨g266, f267⟩ := hS.la LA_426
    refine r_laldv (jn := ((160 * k) + (4 * i)) + ka) (v := g266 (((160 * k) + (4 * i)) + ka)) rfl dX12_makes_307 (show 2 ≤ 426 ∧ 426 < 434 by decide) f267 (vp_in_nI (n := ((160 * k) + (4 * i)) + ka) (by omega) (by omega)) (nI_clamp (n := ((160 * k) + (4 * i)) + ka) (by omega)) rfl ?_
    refine r_topl (fun x268 e269 => ?_)
    refine r_lstore (ls' := [some (.ref 420), some (.int (nI s)), some (.int (nI i)), some (.int (nI j)), some (.int bt), some (.int le), some (.int no), some (.int (nI (c + m))), some (.int xf8), some (.int xf9), some (.int (nI k)), some (.int (nI ka)), some (.long x268), none, u14, u14b, u16, u17, u17b, u19, u19b, u21]) rfl dX12_makes_308 (Nat.le_of_ble_eq_true rfl) rfl ?_
    refine r_aload_n rfl dX12_makes_310 rfl ?_
    refine r_getv 17 rfl dX12_makes_311 (show 2 ≤ 420 ∧ 420 < 434 by decide) ((hF 420 (by decide)).trans h5) fl_X12_30 rfl ?_
    refine r_sipush (v := 160) rfl dX12_makes_314 (by decide) ?_
    refine r_iload rfl dX12_makes_317 rfl ?_
    refine r_imul rfl dX12_makes_319 ?_
    refine r_eqi (y := nI (160 * k)) (show 160 * (nI k) = nI (160 * k) from pk_mul 160 k) ?_
    refine r_iconst (v := 4) rfl dX12_makes_320 (by decide) ?_
    refine r_iload_n rfl dX12_makes_321 rfl ?_
    refine r_imul rfl dX12_makes_322 ?_
    refine r_eqi (y := nI (4 * j)) (show 4 * (nI j) = nI (4 * j) from pk_mul 4 j) ?_
    refine r_iadd rfl dX12_makes_323 ?_
    refine r_eqi (y := nI ((160 * k) + (4 * j))) (show (nI (160 * k)) + (nI (4 * j)) = nI ((160 * k) + (4 * j)) from nI_add (160 * k) (4 * j)) ?_
    refine r_iload rfl dX12_makes_324 rfl ?_
    refine r_iadd rfl dX12_makes_326 ?_
    refine r_eqi (y := nI (((160 * k) + (4 * j)) + ka)) (show (nI ((160 * k) + (4 * j))) + (nI ka) = nI (((160 * k) + (4 * j)) + ka) from nI_add ((160 * k) + (4 * j)) ka) ?_
    obtain ⟨g270, f271⟩ := hS.la LA_426
    refine r_laldv (jn := ((160 * k) + (4 * j)) + ka) (v := g270 (((160 * k) + (4 * j)) + ka)) rfl dX12_makes_327 (show 2 ≤ 426 ∧ 426 < 434 by decide) f271 (vp_in_nI (n := ((160 * k) + (4 * j)) + ka) (by omega) (by omega)) (nI_clamp (n := ((160 * k) + (4 * j)) + ka) (by omega)) rfl ?_
    refine r_topl (fun x272 e273 => ?_)
    refine r_lstore (ls' := [some (.ref 420), some (.int (nI s)), some (.int (nI i)), some (.int (nI j)), some (.int bt), some (.int le), some (.int no), some (.int (nI (c + m))), some (.int xf8), some (.int xf9), some (.int (nI k)), some (.int (nI ka)), some (.long x268), none, some (.long x272), none, u16, u17, u17b, u19, u19b, u21]) rfl dX12_makes_328 (Nat.le_of_ble_eq_true rfl) rfl ?_
    refine r_iload rfl dX12_makes_330 rfl ?_
    refine r_iconst (v := 1) rfl dX12_makes_332 (by decide) ?_
    have J274 : ∀ v275 : Int32, EV xs L (d + 2) 0 0 M_X12_makes 434 h 356 [some (.ref 420), some (.int (nI s)), some (.int (nI i)), some (.int (nI j)), some (.int bt), some (.int le), some (.int no), some (.int (nI (c + m))), some (.int xf8), some (.int xf9), some (.int (nI k)), some (.int (nI ka)), some (.long x268), none, some (.long x272), none, u16, u17, u17b, u19, u19b, u21] (.int v275 :: []) Q := by
      intro v275
      refine r_istore (ls' := [some (.ref 420), some (.int (nI s)), some (.int (nI i)), some (.int (nI j)), some (.int bt), some (.int le), some (.int no), some (.int (nI (c + m))), some (.int xf8), some (.int xf9), some (.int (nI k)), some (.int (nI ka)), some (.long x268), none, some (.long x272), none, some (.int v275), u17, u17b, u19, u19b, u21]) rfl dX12_makes_356 (Nat.le_of_ble_eq_true rfl) rfl ?_
      refine r_iload rfl dX12_makes_358 rfl ?_
      have J276 : ∀ v277 : Int64, EV xs L (d + 2) 0 0 M_X12_makes 434 h 376 [some (.ref 420), some (.int (nI s)), some (.int (nI i)), some (.int (nI j)), some (.int bt), some (.int le), some (.int no), some (.int (nI (c + m))), some (.int xf8), some (.int xf9), some (.int (nI k)), some (.int (nI ka)), some (.long x268), none, some (.long x272), none, some (.int v275), u17, u17b, u19, u19b, u21] (.long v277 :: []) Q := by
        intro v277
        refine r_lstore (ls' := [some (.ref 420), some (.int (nI s)), some (.int (nI i)), some (.int (nI j)), some (.int bt), some (.int le), some (.int no), some (.int (nI (c + m))), some (.int xf8), some (.int xf9), some (.int (nI k)), some (.int (nI ka)), some (.long x268), none, some (.long x272), none, some (.int v275), some (.long v277), none, u19, u19b, u21]) rfl dX12_makes_376 (Nat.le_of_ble_eq_true rfl) rfl ?_
        refine r_iload rfl dX12_makes_378 rfl ?_
        refine r_iconst (v := 2) rfl dX12_makes_380 (by decide) ?_
        refine r_icmp_ne (tgt := 457) rfl rfl dX12_makes_381 (fun c278 => ?_) (fun c278 => ?_)
        · have q279 : ¬ k = 2 := (not_congr (nI_eq (a := k) (b := 2)  (by omega) (by omega))).mp c278
          refine r_aload_n rfl dX12_makes_457 rfl ?_
          refine r_getv 17 rfl dX12_makes_458 (show 2 ≤ 420 ∧ 420 < 434 by decide) ((hF 420 (by decide)).trans h5) fl_X12_30 rfl ?_
          refine r_sipush (v := 160) rfl dX12_makes_461 (by decide) ?_
          refine r_iload rfl dX12_makes_464 rfl ?_
          refine r_imul rfl dX12_makes_466 ?_
          refine r_eqi (y := nI (160 * k)) (show 160 * (nI k) = nI (160 * k) from pk_mul 160 k) ?_
          refine r_iconst (v := 4) rfl dX12_makes_467 (by decide) ?_
          refine r_iload rfl dX12_makes_468 rfl ?_
          refine r_imul rfl dX12_makes_470 ?_
          refine r_eqi (y := nI (4 * (c + m))) (show 4 * (nI (c + m)) = nI (4 * (c + m)) from pk_mul 4 (c + m)) ?_
          refine r_iadd rfl dX12_makes_471 ?_
          refine r_eqi (y := nI ((160 * k) + (4 * (c + m)))) (show (nI (160 * k)) + (nI (4 * (c + m))) = nI ((160 * k) + (4 * (c + m))) from nI_add (160 * k) (4 * (c + m))) ?_
          refine r_iload rfl dX12_makes_472 rfl ?_
          refine r_iadd rfl dX12_makes_474 ?_
          refine r_eqi (y := nI (((160 * k) + (4 * (c + m))) + ka)) (show (nI ((160 * k) + (4 * (c + m)))) + (nI ka) = nI (((160 * k) + (4 * (c + m))) + ka) from nI_add ((160 * k) + (4 * (c + m))) ka) ?_
          refine r_lload rfl dX12_makes_475 rfl ?_
          obtain ⟨g280, f281⟩ := hS.la LA_426
          refine m_last rfl dX12_makes_477 (show 2 ≤ 426 ∧ 426 < 434 by decide) hS hF (by decide) f281 (vp_in_nI (n := ((160 * k) + (4 * (c + m))) + ka) (by omega) (by omega)) (fun h282 hS283 hF284 hN285 => ?_)
          refine r_iinc (y := nI (ka + 1)) (ls' := [some (.ref 420), some (.int (nI s)), some (.int (nI i)), some (.int (nI j)), some (.int bt), some (.int le), some (.int no), some (.int (nI (c + m))), some (.int xf8), some (.int xf9), some (.int (nI k)), some (.int (nI (ka + 1))), some (.long x268), none, some (.long x272), none, some (.int v275), some (.long v277), none, u19, u19b, u21]) rfl dX12_makes_478 rfl (nI_1 ka) (Nat.le_of_ble_eq_true rfl) rfl ?_
          refine r_goto (pc' := 284) rfl dX12_makes_481 ?_
          exact ih (ka + 1) (by omega) h282 hS283 hF284 (some (.long x268)) none (some (.long x272)) none (some (.int v275)) (some (.long v277)) none u19 u19b u21 hK
        · have q286 : k = 2 := (nI_eq (a := k) (b := 2) (by omega) (by omega)).mp c278
          refine r_iload rfl dX12_makes_384 rfl ?_
          refine r_if_eq (tgt := 457) rfl rfl dX12_makes_386 (fun c287 => ?_) (fun c287 => ?_)
          · refine r_aload_n rfl dX12_makes_457 rfl ?_
            refine r_getv 17 rfl dX12_makes_458 (show 2 ≤ 420 ∧ 420 < 434 by decide) ((hF 420 (by decide)).trans h5) fl_X12_30 rfl ?_
            refine r_sipush (v := 160) rfl dX12_makes_461 (by decide) ?_
            refine r_iload rfl dX12_makes_464 rfl ?_
            refine r_imul rfl dX12_makes_466 ?_
            refine r_eqi (y := nI (160 * k)) (show 160 * (nI k) = nI (160 * k) from pk_mul 160 k) ?_
            refine r_iconst (v := 4) rfl dX12_makes_467 (by decide) ?_
            refine r_iload rfl dX12_makes_468 rfl ?_
            refine r_imul rfl dX12_makes_470 ?_
            refine r_eqi (y := nI (4 * (c + m))) (show 4 * (nI (c + m)) = nI (4 * (c + m)) from pk_mul 4 (c + m)) ?_
            refine r_iadd rfl dX12_makes_471 ?_
            refine r_eqi (y := nI ((160 * k) + (4 * (c + m)))) (show (nI (160 * k)) + (nI (4 * (c + m))) = nI ((160 * k) + (4 * (c + m))) from nI_add (160 * k) (4 * (c + m))) ?_
            refine r_iload rfl dX12_makes_472 rfl ?_
            refine r_iadd rfl dX12_makes_474 ?_
            refine r_eqi (y := nI (((160 * k) + (4 * (c + m))) + ka)) (show (nI ((160 * k) + (4 * (c + m)))) + (nI ka) = nI (((160 * k) + (4 * (c + m))) + ka) from nI_add ((160 * k) + (4 * (c + m))) ka) ?_
            refine r_lload rfl dX12_makes_475 rfl ?_
            obtain ⟨g288, f289⟩ := hS.la LA_426
            refine m_last rfl dX12_makes_477 (show 2 ≤ 426 ∧ 426 < 434 by decide) hS hF (by decide) f289 (vp_in_nI (n := ((160 * k) + (4 * (c + m))) + ka) (by omega) (by omega)) (fun h290 hS291 hF292 hN293 => ?_)
            refine r_iinc (y := nI (ka + 1)) (ls' := [some (.ref 420), some (.int (nI s)), some (.int (nI i)), some (.int (nI j)), some (.int bt), some (.int le), some (.int no), some (.int (nI (c + m))), some (.int xf8), some (.int xf9), some (.int (nI k)), some (.int (nI (ka + 1))), some (.long x268), none, some (.long x272), none, some (.int v275), some (.long v277), none, u19, u19b, u21]) rfl dX12_makes_478 rfl (nI_1 ka) (Nat.le_of_ble_eq_true rfl) rfl ?_
            refine r_goto (pc' := 284) rfl dX12_makes_481 ?_
            exact ih (ka + 1) (by omega) h290 hS291 hF292 (some (.long x268)) none (some (.long x272)) none (some (.int v275)) (some (.long v277)) none u19 u19b u21 hK
          · refine r_iload rfl dX12_makes_389 rfl ?_
            refine r_if_eq (tgt := 457) rfl rfl dX12_makes_391 (fun c294 => ?_) (fun c294 => ?_)
            · refine r_aload_n rfl dX12_makes_457 rfl ?_
              refine r_getv 17 rfl dX12_makes_458 (show 2 ≤ 420 ∧ 420 < 434 by decide) ((hF 420 (by decide)).trans h5) fl_X12_30 rfl ?_
              refine r_sipush (v := 160) rfl dX12_makes_461 (by decide) ?_
              refine r_iload rfl dX12_makes_464 rfl ?_
              refine r_imul rfl dX12_makes_466 ?_
              refine r_eqi (y := nI (160 * k)) (show 160 * (nI k) = nI (160 * k) from pk_mul 160 k) ?_
              refine r_iconst (v := 4) rfl dX12_makes_467 (by decide) ?_
              refine r_iload rfl dX12_makes_468 rfl ?_
              refine r_imul rfl dX12_makes_470 ?_
              refine r_eqi (y := nI (4 * (c + m))) (show 4 * (nI (c + m)) = nI (4 * (c + m)) from pk_mul 4 (c + m)) ?_
              refine r_iadd rfl dX12_makes_471 ?_
              refine r_eqi (y := nI ((160 * k) + (4 * (c + m)))) (show (nI (160 * k)) + (nI (4 * (c + m))) = nI ((160 * k) + (4 * (c + m))) from nI_add (160 * k) (4 * (c + m))) ?_
              refine r_iload rfl dX12_makes_472 rfl ?_
              refine r_iadd rfl dX12_makes_474 ?_
              refine r_eqi (y := nI (((160 * k) + (4 * (c + m))) + ka)) (show (nI ((160 * k) + (4 * (c + m)))) + (nI ka) = nI (((160 * k) + (4 * (c + m))) + ka) from nI_add ((160 * k) + (4 * (c + m))) ka) ?_
              refine r_lload rfl dX12_makes_475 rfl ?_
              obtain ⟨g295, f296⟩ := hS.la LA_426
              refine m_last rfl dX12_makes_477 (show 2 ≤ 426 ∧ 426 < 434 by decide) hS hF (by decide) f296 (vp_in_nI (n := ((160 * k) + (4 * (c + m))) + ka) (by omega) (by omega)) (fun h297 hS298 hF299 hN300 => ?_)
              refine r_iinc (y := nI (ka + 1)) (ls' := [some (.ref 420), some (.int (nI s)), some (.int (nI i)), some (.int (nI j)), some (.int bt), some (.int le), some (.int no), some (.int (nI (c + m))), some (.int xf8), some (.int xf9), some (.int (nI k)), some (.int (nI (ka + 1))), some (.long x268), none, some (.long x272), none, some (.int v275), some (.long v277), none, u19, u19b, u21]) rfl dX12_makes_478 rfl (nI_1 ka) (Nat.le_of_ble_eq_true rfl) rfl ?_
              refine r_goto (pc' := 284) rfl dX12_makes_481 ?_
              exact ih (ka + 1) (by omega) h297 hS298 hF299 (some (.long x268)) none (some (.long x272)) none (some (.int v275)) (some (.long v277)) none u19 u19b u21 hK
            · refine r_lconst (v := 0) rfl dX12_makes_394 (by decide) ?_
              refine r_lstore (ls' := [some (.ref 420), some (.int (nI s)), some (.int (nI i)), some (.int (nI j)), some (.int bt), some (.int le), some (.int no), some (.int (nI (c + m))), some (.int xf8), some (.int xf9), some (.int (nI k)), some (.int (nI ka)), some (.long x268), none, some (.long x272), none, some (.int v275), some (.long v277), none, some (.long 0), none, u21]) rfl dX12_makes_395 (Nat.le_of_ble_eq_true rfl) rfl ?_
              refine r_iconst (v := 0) rfl dX12_makes_397 (by decide) ?_
              refine r_istore (ls' := [some (.ref 420), some (.int (nI s)), some (.int (nI i)), some (.int (nI j)), some (.int bt), some (.int le), some (.int no), some (.int (nI (c + m))), some (.int xf8), some (.int xf9), some (.int (nI k)), some (.int (nI ka)), some (.long x268), none, some (.long x272), none, some (.int v275), some (.long v277), none, some (.long 0), none, some (.int 0)]) rfl dX12_makes_398 (Nat.le_of_ble_eq_true rfl) rfl ?_
              refine lp_X12_makes_400b ((hF 420 (by decide)).trans h5) hc hm hcm hi hj hb_k (by omega) (64 - 0) 0 (by omega) h hS (KM_rf _) 0 ?_
              intro h303 hS304 hK305 kx301 w302
              have hF306 := KM_tr hF (KM_sb (by decide) hK305)
              refine r_lload rfl dX12_makes_440 rfl ?_
              refine r_lload rfl dX12_makes_442 rfl ?_
              refine r_land rfl dX12_makes_444 ?_
              refine r_lload rfl dX12_makes_445 rfl ?_
              refine r_ldc2 (v := (-1)) rfl dX12_makes_447 lc_X12_137 ?_
              refine r_lxor rfl dX12_makes_450 ?_
              refine r_lload rfl dX12_makes_451 rfl ?_
              refine r_land rfl dX12_makes_453 ?_
              refine r_lor rfl dX12_makes_454 ?_
              refine r_topl (fun x307 e308 => ?_)
              refine r_lstore (ls' := [some (.ref 420), some (.int (nI s)), some (.int (nI i)), some (.int (nI j)), some (.int bt), some (.int le), some (.int no), some (.int (nI (c + m))), some (.int xf8), some (.int xf9), some (.int (nI k)), some (.int (nI ka)), some (.long x268), none, some (.long x272), none, some (.int v275), some (.long x307), none, some (.long w302), none, some (.int kx301)]) rfl dX12_makes_455 (Nat.le_of_ble_eq_true rfl) rfl ?_
              refine r_aload_n rfl dX12_makes_457 rfl ?_
              refine r_getv 17 rfl dX12_makes_458 (show 2 ≤ 420 ∧ 420 < 434 by decide) ((hF306 420 (by decide)).trans h5) fl_X12_30 rfl ?_
              refine r_sipush (v := 160) rfl dX12_makes_461 (by decide) ?_
              refine r_iload rfl dX12_makes_464 rfl ?_
              refine r_imul rfl dX12_makes_466 ?_
              refine r_eqi (y := nI (160 * k)) (show 160 * (nI k) = nI (160 * k) from pk_mul 160 k) ?_
              refine r_iconst (v := 4) rfl dX12_makes_467 (by decide) ?_
              refine r_iload rfl dX12_makes_468 rfl ?_
              refine r_imul rfl dX12_makes_470 ?_
              refine r_eqi (y := nI (4 * (c + m))) (show 4 * (nI (c + m)) = nI (4 * (c + m)) from pk_mul 4 (c + m)) ?_
              refine r_iadd rfl dX12_makes_471 ?_
              refine r_eqi (y := nI ((160 * k) + (4 * (c + m)))) (show (nI (160 * k)) + (nI (4 * (c + m))) = nI ((160 * k) + (4 * (c + m))) from nI_add (160 * k) (4 * (c + m))) ?_
              refine r_iload rfl dX12_makes_472 rfl ?_
              refine r_iadd rfl dX12_makes_474 ?_
              refine r_eqi (y := nI (((160 * k) + (4 * (c + m))) + ka)) (show (nI ((160 * k) + (4 * (c + m)))) + (nI ka) = nI (((160 * k) + (4 * (c + m))) + ka) from nI_add ((160 * k) + (4 * (c + m))) ka) ?_
              refine r_lload rfl dX12_makes_475 rfl ?_
              obtain ⟨g309, f310⟩ := hS304.la LA_426
              refine m_last rfl dX12_makes_477 (show 2 ≤ 426 ∧ 426 < 434 by decide) hS304 hF306 (by decide) f310 (vp_in_nI (n := ((160 * k) + (4 * (c + m))) + ka) (by omega) (by omega)) (fun h311 hS312 hF313 hN314 => ?_)
              refine r_iinc (y := nI (ka + 1)) (ls' := [some (.ref 420), some (.int (nI s)), some (.int (nI i)), some (.int (nI j)), some (.int bt), some (.int le), some (.int no), some (.int (nI (c + m))), some (.int xf8), some (.int xf9), some (.int (nI k)), some (.int (nI (ka + 1))), some (.long x268), none, some (.long x272), none, some (.int v275), some (.long x307), none, some (.long w302), none, some (.int kx301)]) rfl dX12_makes_478 rfl (nI_1 ka) (Nat.le_of_ble_eq_true rfl) rfl ?_
              refine r_goto (pc' := 284) rfl dX12_makes_481 ?_
              exact ih (ka + 1) (by omega) h311 hS312 hF313 (some (.long x268)) none (some (.long x272)) none (some (.int v275)) (some (.long x307)) none (some (.long w302)) none (some (.int kx301)) hK
      refine r_if_eq (tgt := 371) rfl rfl dX12_makes_360 (fun c315 => ?_) (fun c315 => ?_)
      · refine r_lload rfl dX12_makes_371 rfl ?_
        refine r_lload rfl dX12_makes_373 rfl ?_
        refine r_land rfl dX12_makes_375 ?_
        exact J276 _
      · refine r_lload rfl dX12_makes_363 rfl ?_
        refine r_lload rfl dX12_makes_365 rfl ?_
        refine r_lor rfl dX12_makes_367 ?_
        refine r_goto (pc' := 376) rfl dX12_makes_368 ?_
        exact J276 _
    refine r_icmp_ne (tgt := 341) rfl rfl dX12_makes_333 (fun c316 => ?_) (fun c316 => ?_)
    · have q317 : ¬ k = 1 := (not_congr (nI_eq (a := k) (b := 1)  (by omega) (by omega))).mp c316
      refine r_iload rfl dX12_makes_341 rfl ?_
      refine r_if_eq (tgt := 355) rfl rfl dX12_makes_343 (fun c318 => ?_) (fun c318 => ?_)
      · refine r_iconst (v := 0) rfl dX12_makes_355 (by decide) ?_
        exact J274 _
      · refine r_iload rfl dX12_makes_346 rfl ?_
        refine r_if_ne (tgt := 355) rfl rfl dX12_makes_348 (fun c319 => ?_) (fun c319 => ?_)
        · refine r_iconst (v := 0) rfl dX12_makes_355 (by decide) ?_
          exact J274 _
        · refine r_iconst (v := 1) rfl dX12_makes_351 (by decide) ?_
          refine r_goto (pc' := 356) rfl dX12_makes_352 ?_
          exact J274 _
    · have q320 : k = 1 := (nI_eq (a := k) (b := 1) (by omega) (by omega)).mp c316
      refine r_iload rfl dX12_makes_336 rfl ?_
      refine r_goto (pc' := 356) rfl dX12_makes_338 ?_
      exact J274 _
set_option maxRecDepth 20000 in
set_option maxHeartbeats 1000000 in
theorem lp_X12_makes_275b {xs : Nat → Int32} {L d : Nat} {Q : ev_Q} {th : Int32} {tr : Int64} {ty nx tk pl va fa ss wg : Int32} {c m : Nat} {s i j : Nat} {bt le no : Int32} {xf8 : Int32} {xf9 : Int32} {h0 : ev_H} (h5 : h0 420 = c420 th tr ty nx tk pl va fa (nI c) (nI m) ss wg) (hc : c ≤ 16) (hm : m ≤ 24) (hcm : c + m < 40) (hi : i < c + m) (hj : j < c + m) : ∀ (n k : Nat), k + n = 3 → ∀ (h : ev_H) (hS : SH h) (hF : KM [425, 426] h0 h) (u11 : Option Value) (u12 : Option Value) (u12b : Option Value) (u14 : Option Value) (u14b : Option Value) (u16 : Option Value) (u17 : Option Value) (u17b : Option Value) (u19 : Option Value) (u19b : Option Value) (u21 : Option Value) (hK : ∀ (h : ev_H) (hS : SH h) (hF : KM [425, 426] h0 h) (kx : Int32) (u11 : Option Value) (u12 : Option Value) (u12b : Option Value) (u14 : Option Value) (u14b : Option Value) (u16 : Option Value) (u17 : Option Value) (u17b : Option Value) (u19 : Option Value) (u19b : Option Value) (u21 : Option Value), EV xs L (d + 2) 0 0 M_X12_makes 434 h 490 [some (.ref 420), some (.int (nI s)), some (.int (nI i)), some (.int (nI j)), some (.int bt), some (.int le), some (.int no), some (.int (nI (c + m))), some (.int xf8), some (.int xf9), some (.int kx), u11, u12, u12b, u14, u14b, u16, u17, u17b, u19, u19b, u21] [] Q), EV xs L (d + 2) 0 0 M_X12_makes 434 h 275 [some (.ref 420), some (.int (nI s)), some (.int (nI i)), some (.int (nI j)), some (.int bt), some (.int le), some (.int no), some (.int (nI (c + m))), some (.int xf8), some (.int xf9), some (.int (nI k)), u11, u12, u12b, u14, u14b, u16, u17, u17b, u19, u19b, u21] [] Q := by
  intro n
  induction n with
  | zero =>
    intro k hk h hS hF u11 u12 u12b u14 u14b u16 u17 u17b u19 u19b u21 hK
    refine r_iload rfl dX12_makes_275 rfl ?_
    refine r_iconst (v := 3) rfl dX12_makes_277 (by decide) ?_
    refine r_icmp_ge (tgt := 490) rfl rfl dX12_makes_278 (fun _ => ?_) (fun zc => absurd (show 3 ≤ nI k from nI_le (a := 3) (b := k) (by omega) (by omega)) zc)
    exact hK h hS hF (nI k) u11 u12 u12b u14 u14b u16 u17 u17b u19 u19b u21
  | succ n ih =>
    intro k hk h hS hF u11 u12 u12b u14 u14b u16 u17 u17b u19 u19b u21 hK
    refine r_iload rfl dX12_makes_275 rfl ?_
    refine r_iconst (v := 3) rfl dX12_makes_277 (by decide) ?_
    refine r_icmp_ge (tgt := 490) rfl rfl dX12_makes_278 (fun zc => absurd zc (show ¬ 3 ≤ nI k from nI_ge (a := k) (b := 3) (by omega) (by omega))) (fun _ => ?_)
    refine r_iconst (v := 0) rfl dX12_makes_281 (by decide) ?_
    refine r_istore (ls' := [some (.ref 420), some (.int (nI s)), some (.int (nI i)), some (.int (nI j)), some (.int bt), some (.int le), some (.int no), some (.int (nI (c + m))), some (.int xf8), some (.int xf9), some (.int (nI k)), some (.int 0), u12, u12b, u14, u14b, u16, u17, u17b, u19, u19b, u21]) rfl dX12_makes_282 (Nat.le_of_ble_eq_true rfl) rfl ?_
    refine lp_X12_makes_284b ((hF 420 (by decide)).trans h5) hc hm hcm hi hj (by omega) (4 - 0) 0 (by omega) h hS (KM_rf _) u12 u12b u14 u14b u16 u17 u17b u19 u19b u21 ?_
    intro h177 hS178 hK179 kx166 w167 w168 w169 w170 w171 w172 w173 w174 w175 w176
    have hF180 := KM_tr hF (KM_sb (by decide) hK179)
    refine r_iinc (y := nI (k + 1)) (ls' := [some (.ref 420), some (.int (nI s)), some (.int (nI i)), some (.int (nI j)), some (.int bt), some (.int le), some (.int no), some (.int (nI (c + m))), some (.int xf8), some (.int xf9), some (.int (nI (k + 1))), some (.int kx166), w167, w168, w169, w170, w171, w172, w173, w174, w175, w176]) rfl dX12_makes_484 rfl (nI_1 k) (Nat.le_of_ble_eq_true rfl) rfl ?_
    refine r_goto (pc' := 275) rfl dX12_makes_487 ?_
    exact ih (k + 1) (by omega) h177 hS178 hF180 (some (.int kx166)) w167 w168 w169 w170 w171 w172 w173 w174 w175 w176 hK
set_option maxRecDepth 20000 in
set_option maxHeartbeats 1000000 in
theorem y_makes_tail {xs : Nat → Int32} {L d : Nat} {h : ev_H} {th : Int32} {tr : Int64} {ty nx tk pl va fa ss wg : Int32} {c m : Nat} {s i j : Nat} {bt le no : Int32} (hS : SH h) (h5 : h 420 = c420 th tr ty nx tk pl va fa (nI c) (nI m) ss wg) (hc : c ≤ 16) (hm : m ≤ 24) (hcm : c + m < 40) (hi : i < c + m) (hj : j < c + m) : EV xs L (d + 2) 0 0 M_X12_makes 434 h 230 [some (.ref 420), some (.int (nI s)), some (.int (nI i)), some (.int (nI j)), some (.int bt), some (.int le), some (.int no), some (.int (nI (c + m))), none, none, none, none, none, none, none, none, none, none, none, none, none, none] [] (fun sz' h' r => sz' = 434 ∧ SH h' ∧ KM [420, 425, 426] h h' ∧ r = [.int 1] ∧ h' 420 = c420 th tr ty nx tk pl va fa (nI c) (nI (m + 1)) ss wg) := by
  refine r_aload_n rfl dX12_makes_230 rfl ?_
  refine r_iload rfl dX12_makes_231 rfl ?_
  refine cl_X12_121 rfl rfl dX12_makes_233 (show 2 ≤ 420 ∧ 420 < 434 by decide).1 (show 2 ≤ 420 ∧ 420 < 434 by decide).2 h5 (Nat.le_of_ble_eq_true rfl) (s_X12_holding (i := c + m) hS h5 hc hm (by omega)) ?_
  rintro _ h51 _ ⟨rfl, hS52, hK53, rfl⟩
  have hF54 := KM_tr (KM_rf (Mod := [420, 425, 426]) h) (KM_sb (by decide) hK53)
  have f55 : h51 420 = c420 th tr ty nx tk pl va fa (nI c) (nI m) ss wg := (hK53 420 (by decide)).trans h5
  refine r_aload_n rfl dX12_makes_236 rfl ?_
  refine r_iconst (v := 1) rfl dX12_makes_237 (by decide) ?_
  refine cl_X12_130 rfl rfl dX12_makes_238 (show 2 ≤ 420 ∧ 420 < 434 by decide).1 (show 2 ≤ 420 ∧ 420 < 434 by decide).2 f55 (Nat.le_of_ble_eq_true rfl) (s_X12_lettersOf hS52 f55 hc hm) ?_
  rintro _ h56 _ ⟨rfl, e57, x58, rfl⟩
  replace e57 := e57.symm
  subst e57
  refine r_iload rfl dX12_makes_241 rfl ?_
  refine r_iand rfl dX12_makes_243 ?_
  have J59 : ∀ v60 : Int32, EV xs L (d + 2) 0 0 M_X12_makes 434 h51 252 [some (.ref 420), some (.int (nI s)), some (.int (nI i)), some (.int (nI j)), some (.int bt), some (.int le), some (.int no), some (.int (nI (c + m))), none, none, none, none, none, none, none, none, none, none, none, none, none, none] (.int v60 :: []) (fun sz' h' r => sz' = 434 ∧ SH h' ∧ KM [420, 425, 426] h h' ∧ r = [.int 1] ∧ h' 420 = c420 th tr ty nx tk pl va fa (nI c) (nI (m + 1)) ss wg) := by
    intro v60
    refine r_istore (ls' := [some (.ref 420), some (.int (nI s)), some (.int (nI i)), some (.int (nI j)), some (.int bt), some (.int le), some (.int no), some (.int (nI (c + m))), some (.int v60), none, none, none, none, none, none, none, none, none, none, none, none, none]) rfl dX12_makes_252 (Nat.le_of_ble_eq_true rfl) rfl ?_
    refine r_aload_n rfl dX12_makes_254 rfl ?_
    refine r_iconst (v := 2) rfl dX12_makes_255 (by decide) ?_
    refine cl_X12_130 rfl rfl dX12_makes_256 (show 2 ≤ 420 ∧ 420 < 434 by decide).1 (show 2 ≤ 420 ∧ 420 < 434 by decide).2 f55 (Nat.le_of_ble_eq_true rfl) (s_X12_lettersOf hS52 f55 hc hm) ?_
    rintro _ h61 _ ⟨rfl, e62, x63, rfl⟩
    replace e62 := e62.symm
    subst e62
    refine r_iload rfl dX12_makes_259 rfl ?_
    refine r_iand rfl dX12_makes_261 ?_
    have J64 : ∀ v65 : Int32, EV xs L (d + 2) 0 0 M_X12_makes 434 h51 270 [some (.ref 420), some (.int (nI s)), some (.int (nI i)), some (.int (nI j)), some (.int bt), some (.int le), some (.int no), some (.int (nI (c + m))), some (.int v60), none, none, none, none, none, none, none, none, none, none, none, none, none] (.int v65 :: []) (fun sz' h' r => sz' = 434 ∧ SH h' ∧ KM [420, 425, 426] h h' ∧ r = [.int 1] ∧ h' 420 = c420 th tr ty nx tk pl va fa (nI c) (nI (m + 1)) ss wg) := by
      intro v65
      refine r_istore (ls' := [some (.ref 420), some (.int (nI s)), some (.int (nI i)), some (.int (nI j)), some (.int bt), some (.int le), some (.int no), some (.int (nI (c + m))), some (.int v60), some (.int v65), none, none, none, none, none, none, none, none, none, none, none, none]) rfl dX12_makes_270 (Nat.le_of_ble_eq_true rfl) rfl ?_
      refine r_iconst (v := 0) rfl dX12_makes_272 (by decide) ?_
      refine r_istore (ls' := [some (.ref 420), some (.int (nI s)), some (.int (nI i)), some (.int (nI j)), some (.int bt), some (.int le), some (.int no), some (.int (nI (c + m))), some (.int v60), some (.int v65), some (.int 0), none, none, none, none, none, none, none, none, none, none, none]) rfl dX12_makes_273 (Nat.le_of_ble_eq_true rfl) rfl ?_
      refine lp_X12_makes_275b f55 hc hm hcm hi hj (3 - 0) 0 (by omega) h51 hS52 (KM_rf _) none none none none none none none none none none none ?_
      intro h78 hS79 hK80 kx66 w67 w68 w69 w70 w71 w72 w73 w74 w75 w76 w77
      have hF81 := KM_tr hF54 (KM_sb (by decide) hK80)
      have f82 : h78 420 = c420 th tr ty nx tk pl va fa (nI c) (nI m) ss wg := (hK80 420 (by decide)).trans f55
      refine r_aload_n rfl dX12_makes_490 rfl ?_
      refine r_dup rfl dX12_makes_491 rfl ?_
      refine r_getv 10 rfl dX12_makes_492 (show 2 ≤ 420 ∧ 420 < 434 by decide) f82 fl_X12_115 rfl ?_
      refine r_iconst (v := 1) rfl dX12_makes_495 (by decide) ?_
      refine r_iadd rfl dX12_makes_496 ?_
      refine r_eqi (y := nI (m + 1)) (show (nI m) + 1 = nI (m + 1) from nI_add m 1) ?_
      refine m_put 10 (fs' := [.int th, .long tr, .ref 421, .int ty, .int nx, .int tk, .int pl, .int va, .int fa, .int (nI c), .int (nI (m + 1)), .int ss, .int wg, .ref 422, .ref 423, .ref 424, .ref 425, .ref 426, .ref 427, .ref 428, .ref 429, .ref 430, .ref 431, .ref 432, .ref 433]) rfl dX12_makes_497 hS79 hF81 (by decide) f82 (fp_X12_115 rfl _) (Nat.le_of_ble_eq_true rfl) rfl (fun h83 hS84 hF85 f86 => ?_)
      refine r_iconst (v := 1) rfl dX12_makes_500 (by decide) ?_
      exact r_ret dX12_makes_501 (rt_z rfl (Or.inr rfl)) ⟨rfl, hS84, hF85, rfl, f86⟩
    refine r_if_eq (tgt := 269) rfl rfl dX12_makes_262 (fun c87 => ?_) (fun c87 => ?_)
    · refine r_iconst (v := 0) rfl dX12_makes_269 (by decide) ?_
      exact J64 _
    · refine r_iconst (v := 1) rfl dX12_makes_265 (by decide) ?_
      refine r_goto (pc' := 270) rfl dX12_makes_266 ?_
      exact J64 _
  refine r_if_eq (tgt := 251) rfl rfl dX12_makes_244 (fun c88 => ?_) (fun c88 => ?_)
  · refine r_iconst (v := 0) rfl dX12_makes_251 (by decide) ?_
    exact J59 _
  · refine r_iconst (v := 1) rfl dX12_makes_247 (by decide) ?_
    refine r_goto (pc' := 252) rfl dX12_makes_248 ?_
    exact J59 _
set_option maxRecDepth 20000 in
set_option maxHeartbeats 1000000 in
theorem y_X12_makes {xs : Nat → Int32} {L d : Nat} {h : ev_H} {th : Int32} {tr : Int64} {ty nx tk pl va fa ss wg : Int32} {c m : Nat} {s i j : Nat} {z : Int32} {E G : Nat → Int32} (hS : SH h) (h5 : h 420 = c420 th tr ty nx tk pl va fa (nI c) (nI m) ss wg) (hc : c ≤ 16) (hm : m ≤ 24) (hs : s < 24) (hcm : c + m < 40) (hi : i < c + m) (hj : j < c + m) (h22 : h 422 = cI 240 G) (h24 : h 424 = cI 72 E) (hE1 : E (3 * s) = nI i) (hE2 : E (3 * s + 1) = nI j) (hE3 : E (3 * s + 2) = z) : EV xs L (d + 2) 0 0 M_X12_makes 434 h 0 [some (.ref 420), some (.int (nI s)), none, none, none, none, none, none, none, none, none, none, none, none, none, none, none, none, none, none, none, none] [] (fun sz' h' r => sz' = 434 ∧ SH h' ∧ KM [420, 422, 425, 426] h h' ∧ (((cuK G i j z ∧ h' 420 = c420 th tr ty nx tk pl va fa (nI c) (nI (m + 1)) ss wg ∧ h' 422 = cI 240 (cuG G (c + m) i j z) ∧ r = [.int 1]) ∨ (¬ cuK G i j z ∧ h' 420 = c420 th tr ty nx tk pl va fa (nI c) (nI m) ss wg ∧ h' 422 = cI 240 G ∧ r = [.int 0])))) := by
  refine r_aload_n rfl dX12_makes_0 rfl ?_
  refine r_getv 15 rfl dX12_makes_1 (show 2 ≤ 420 ∧ 420 < 434 by decide) h5 fl_X12_23 rfl ?_
  refine r_iconst (v := 3) rfl dX12_makes_4 (by decide) ?_
  refine r_iload_n rfl dX12_makes_5 rfl ?_
  refine r_imul rfl dX12_makes_6 ?_
  refine r_eqi (y := nI (3 * s)) (show 3 * (nI s) = nI (3 * s) from pk_mul 3 s) ?_
  refine r_ialdv (jn := 3 * s) (v := nI i) rfl dX12_makes_7 (show 2 ≤ 424 ∧ 424 < 434 by decide) h24 (vp_in_nI (n := 3 * s) (by omega) (by decide)) (nI_clamp (n := 3 * s) (by omega)) hE1 ?_
  refine r_istore_n (ls' := [some (.ref 420), some (.int (nI s)), some (.int (nI i)), none, none, none, none, none, none, none, none, none, none, none, none, none, none, none, none, none, none, none]) rfl dX12_makes_8 (Nat.le_of_ble_eq_true rfl) rfl ?_
  refine r_aload_n rfl dX12_makes_9 rfl ?_
  refine r_getv 15 rfl dX12_makes_10 (show 2 ≤ 420 ∧ 420 < 434 by decide) h5 fl_X12_23 rfl ?_
  refine r_iconst (v := 3) rfl dX12_makes_13 (by decide) ?_
  refine r_iload_n rfl dX12_makes_14 rfl ?_
  refine r_imul rfl dX12_makes_15 ?_
  refine r_eqi (y := nI (3 * s)) (show 3 * (nI s) = nI (3 * s) from pk_mul 3 s) ?_
  refine r_iconst (v := 1) rfl dX12_makes_16 (by decide) ?_
  refine r_iadd rfl dX12_makes_17 ?_
  refine r_eqi (y := nI ((3 * s) + 1)) (show (nI (3 * s)) + 1 = nI ((3 * s) + 1) from nI_add (3 * s) 1) ?_
  refine r_ialdv (jn := (3 * s) + 1) (v := nI j) rfl dX12_makes_18 (show 2 ≤ 424 ∧ 424 < 434 by decide) h24 (vp_in_nI (n := (3 * s) + 1) (by omega) (by decide)) (nI_clamp (n := (3 * s) + 1) (by omega)) hE2 ?_
  refine r_istore_n (ls' := [some (.ref 420), some (.int (nI s)), some (.int (nI i)), some (.int (nI j)), none, none, none, none, none, none, none, none, none, none, none, none, none, none, none, none, none, none]) rfl dX12_makes_19 (Nat.le_of_ble_eq_true rfl) rfl ?_
  refine r_iconst (v := 1) rfl dX12_makes_20 (by decide) ?_
  refine r_aload_n rfl dX12_makes_21 rfl ?_
  refine r_getv 15 rfl dX12_makes_22 (show 2 ≤ 420 ∧ 420 < 434 by decide) h5 fl_X12_23 rfl ?_
  refine r_iconst (v := 3) rfl dX12_makes_25 (by decide) ?_
  refine r_iload_n rfl dX12_makes_26 rfl ?_
  refine r_imul rfl dX12_makes_27 ?_
  refine r_eqi (y := nI (3 * s)) (show 3 * (nI s) = nI (3 * s) from pk_mul 3 s) ?_
  refine r_iconst (v := 2) rfl dX12_makes_28 (by decide) ?_
  refine r_iadd rfl dX12_makes_29 ?_
  refine r_eqi (y := nI ((3 * s) + 2)) (show (nI (3 * s)) + 2 = nI ((3 * s) + 2) from nI_add (3 * s) 2) ?_
  refine r_ialdv (jn := (3 * s) + 2) (v := z) rfl dX12_makes_30 (show 2 ≤ 424 ∧ 424 < 434 by decide) h24 (vp_in_nI (n := (3 * s) + 2) (by omega) (by decide)) (nI_clamp (n := (3 * s) + 2) (by omega)) hE3 ?_
  refine r_ishl rfl dX12_makes_31 ?_
  refine r_topi (fun x51 e52 => ?_)
  refine r_istore (ls' := [some (.ref 420), some (.int (nI s)), some (.int (nI i)), some (.int (nI j)), some (.int x51), none, none, none, none, none, none, none, none, none, none, none, none, none, none, none, none, none]) rfl dX12_makes_32 (Nat.le_of_ble_eq_true rfl) rfl ?_
  refine r_aload_n rfl dX12_makes_34 rfl ?_
  refine r_getv 13 rfl dX12_makes_35 (show 2 ≤ 420 ∧ 420 < 434 by decide) h5 fl_X12_17 rfl ?_
  refine r_bipush (v := 6) rfl dX12_makes_38 (by decide) ?_
  refine r_iload_n rfl dX12_makes_40 rfl ?_
  refine r_imul rfl dX12_makes_41 ?_
  refine r_eqi (y := nI (6 * i)) (show 6 * (nI i) = nI (6 * i) from pk_mul 6 i) ?_
  refine r_ialdv (jn := 6 * i) (v := G (6 * i)) rfl dX12_makes_42 (show 2 ≤ 422 ∧ 422 < 434 by decide) h22 (vp_in_nI (n := 6 * i) (by omega) (by decide)) (nI_clamp (n := 6 * i) (by omega)) rfl ?_
  refine r_iload rfl dX12_makes_43 rfl ?_
  refine r_iconst (v := (-1)) rfl dX12_makes_45 (by decide) ?_
  refine r_ixor rfl dX12_makes_46 ?_
  refine r_iand rfl dX12_makes_47 ?_
  refine r_aload_n rfl dX12_makes_48 rfl ?_
  refine r_getv 13 rfl dX12_makes_49 (show 2 ≤ 420 ∧ 420 < 434 by decide) h5 fl_X12_17 rfl ?_
  refine r_bipush (v := 6) rfl dX12_makes_52 (by decide) ?_
  refine r_iload_n rfl dX12_makes_54 rfl ?_
  refine r_imul rfl dX12_makes_55 ?_
  refine r_eqi (y := nI (6 * j)) (show 6 * (nI j) = nI (6 * j) from pk_mul 6 j) ?_
  refine r_ialdv (jn := 6 * j) (v := G (6 * j)) rfl dX12_makes_56 (show 2 ≤ 422 ∧ 422 < 434 by decide) h22 (vp_in_nI (n := 6 * j) (by omega) (by decide)) (nI_clamp (n := 6 * j) (by omega)) rfl ?_
  refine r_ior rfl dX12_makes_57 ?_
  refine r_topi (fun x53 e54 => ?_)
  refine r_istore (ls' := [some (.ref 420), some (.int (nI s)), some (.int (nI i)), some (.int (nI j)), some (.int x51), some (.int x53), none, none, none, none, none, none, none, none, none, none, none, none, none, none, none, none]) rfl dX12_makes_58 (Nat.le_of_ble_eq_true rfl) rfl ?_
  refine r_aload_n rfl dX12_makes_60 rfl ?_
  refine r_getv 13 rfl dX12_makes_61 (show 2 ≤ 420 ∧ 420 < 434 by decide) h5 fl_X12_17 rfl ?_
  refine r_bipush (v := 6) rfl dX12_makes_64 (by decide) ?_
  refine r_iload_n rfl dX12_makes_66 rfl ?_
  refine r_imul rfl dX12_makes_67 ?_
  refine r_eqi (y := nI (6 * i)) (show 6 * (nI i) = nI (6 * i) from pk_mul 6 i) ?_
  refine r_iconst (v := 1) rfl dX12_makes_68 (by decide) ?_
  refine r_iadd rfl dX12_makes_69 ?_
  refine r_eqi (y := nI ((6 * i) + 1)) (show (nI (6 * i)) + 1 = nI ((6 * i) + 1) from nI_add (6 * i) 1) ?_
  refine r_ialdv (jn := (6 * i) + 1) (v := G ((6 * i) + 1)) rfl dX12_makes_70 (show 2 ≤ 422 ∧ 422 < 434 by decide) h22 (vp_in_nI (n := (6 * i) + 1) (by omega) (by decide)) (nI_clamp (n := (6 * i) + 1) (by omega)) rfl ?_
  refine r_aload_n rfl dX12_makes_71 rfl ?_
  refine r_getv 13 rfl dX12_makes_72 (show 2 ≤ 420 ∧ 420 < 434 by decide) h5 fl_X12_17 rfl ?_
  refine r_bipush (v := 6) rfl dX12_makes_75 (by decide) ?_
  refine r_iload_n rfl dX12_makes_77 rfl ?_
  refine r_imul rfl dX12_makes_78 ?_
  refine r_eqi (y := nI (6 * j)) (show 6 * (nI j) = nI (6 * j) from pk_mul 6 j) ?_
  refine r_iconst (v := 1) rfl dX12_makes_79 (by decide) ?_
  refine r_iadd rfl dX12_makes_80 ?_
  refine r_eqi (y := nI ((6 * j) + 1)) (show (nI (6 * j)) + 1 = nI ((6 * j) + 1) from nI_add (6 * j) 1) ?_
  refine r_ialdv (jn := (6 * j) + 1) (v := G ((6 * j) + 1)) rfl dX12_makes_81 (show 2 ≤ 422 ∧ 422 < 434 by decide) h22 (vp_in_nI (n := (6 * j) + 1) (by omega) (by decide)) (nI_clamp (n := (6 * j) + 1) (by omega)) rfl ?_
  refine r_iload rfl dX12_makes_82 rfl ?_
  refine r_iconst (v := (-1)) rfl dX12_makes_84 (by decide) ?_
  refine r_ixor rfl dX12_makes_85 ?_
  refine r_iand rfl dX12_makes_86 ?_
  refine r_ior rfl dX12_makes_87 ?_
  refine r_topi (fun x55 e56 => ?_)
  refine r_istore (ls' := [some (.ref 420), some (.int (nI s)), some (.int (nI i)), some (.int (nI j)), some (.int x51), some (.int x53), some (.int x55), none, none, none, none, none, none, none, none, none, none, none, none, none, none, none]) rfl dX12_makes_88 (Nat.le_of_ble_eq_true rfl) rfl ?_
  refine r_aload_n rfl dX12_makes_90 rfl ?_
  refine r_getv 13 rfl dX12_makes_91 (show 2 ≤ 420 ∧ 420 < 434 by decide) h5 fl_X12_17 rfl ?_
  refine r_bipush (v := 6) rfl dX12_makes_94 (by decide) ?_
  refine r_iload_n rfl dX12_makes_96 rfl ?_
  refine r_imul rfl dX12_makes_97 ?_
  refine r_eqi (y := nI (6 * i)) (show 6 * (nI i) = nI (6 * i) from pk_mul 6 i) ?_
  refine r_ialdv (jn := 6 * i) (v := G (6 * i)) rfl dX12_makes_98 (show 2 ≤ 422 ∧ 422 < 434 by decide) h22 (vp_in_nI (n := 6 * i) (by omega) (by decide)) (nI_clamp (n := 6 * i) (by omega)) rfl ?_
  refine r_iload rfl dX12_makes_99 rfl ?_
  refine r_iand rfl dX12_makes_101 ?_
  refine r_if_eq (tgt := 130) rfl rfl dX12_makes_102 (fun c57 => ?_) (fun c57 => ?_)
  · refine r_iconst (v := 0) rfl dX12_makes_130 (by decide) ?_
    subst e56
    subst e54
    subst e52
    exact r_ret dX12_makes_131 (rt_z rfl (Or.inl rfl)) ⟨rfl, hS, (KM_rf (Mod := [420, 422, 425, 426]) h), Or.inr ⟨fun q => q.1 c57, h5, h22, rfl⟩⟩
  · refine r_aload_n rfl dX12_makes_105 rfl ?_
    refine r_getv 13 rfl dX12_makes_106 (show 2 ≤ 420 ∧ 420 < 434 by decide) h5 fl_X12_17 rfl ?_
    refine r_bipush (v := 6) rfl dX12_makes_109 (by decide) ?_
    refine r_iload_n rfl dX12_makes_111 rfl ?_
    refine r_imul rfl dX12_makes_112 ?_
    refine r_eqi (y := nI (6 * j)) (show 6 * (nI j) = nI (6 * j) from pk_mul 6 j) ?_
    refine r_iconst (v := 1) rfl dX12_makes_113 (by decide) ?_
    refine r_iadd rfl dX12_makes_114 ?_
    refine r_eqi (y := nI ((6 * j) + 1)) (show (nI (6 * j)) + 1 = nI ((6 * j) + 1) from nI_add (6 * j) 1) ?_
    refine r_ialdv (jn := (6 * j) + 1) (v := G ((6 * j) + 1)) rfl dX12_makes_115 (show 2 ≤ 422 ∧ 422 < 434 by decide) h22 (vp_in_nI (n := (6 * j) + 1) (by omega) (by decide)) (nI_clamp (n := (6 * j) + 1) (by omega)) rfl ?_
    refine r_iload rfl dX12_makes_116 rfl ?_
    refine r_iand rfl dX12_makes_118 ?_
    refine r_if_eq (tgt := 130) rfl rfl dX12_makes_119 (fun c58 => ?_) (fun c58 => ?_)
    · refine r_iconst (v := 0) rfl dX12_makes_130 (by decide) ?_
      subst e56
      subst e54
      subst e52
      exact r_ret dX12_makes_131 (rt_z rfl (Or.inl rfl)) ⟨rfl, hS, (KM_rf (Mod := [420, 422, 425, 426]) h), Or.inr ⟨fun q => q.2.1 c58, h5, h22, rfl⟩⟩
    · refine r_iload rfl dX12_makes_122 rfl ?_
      refine r_iload rfl dX12_makes_124 rfl ?_
      refine r_iand rfl dX12_makes_126 ?_
      refine r_if_eq (tgt := 132) rfl rfl dX12_makes_127 (fun c59 => ?_) (fun c59 => ?_)
      · refine r_aload_n rfl dX12_makes_132 rfl ?_
        refine r_getv 9 rfl dX12_makes_133 (show 2 ≤ 420 ∧ 420 < 434 by decide) h5 fl_X12_112 rfl ?_
        refine r_aload_n rfl dX12_makes_136 rfl ?_
        refine r_getv 10 rfl dX12_makes_137 (show 2 ≤ 420 ∧ 420 < 434 by decide) h5 fl_X12_115 rfl ?_
        refine r_iadd rfl dX12_makes_140 ?_
        refine r_eqi (y := nI (c + m)) (show (nI c) + (nI m) = nI (c + m) from nI_add c m) ?_
        refine r_istore (ls' := [some (.ref 420), some (.int (nI s)), some (.int (nI i)), some (.int (nI j)), some (.int x51), some (.int x53), some (.int x55), some (.int (nI (c + m))), none, none, none, none, none, none, none, none, none, none, none, none, none, none]) rfl dX12_makes_141 (Nat.le_of_ble_eq_true rfl) rfl ?_
        refine r_aload_n rfl dX12_makes_143 rfl ?_
        refine r_getv 13 rfl dX12_makes_144 (show 2 ≤ 420 ∧ 420 < 434 by decide) h5 fl_X12_17 rfl ?_
        refine r_bipush (v := 6) rfl dX12_makes_147 (by decide) ?_
        refine r_iload rfl dX12_makes_149 rfl ?_
        refine r_imul rfl dX12_makes_151 ?_
        refine r_eqi (y := nI (6 * (c + m))) (show 6 * (nI (c + m)) = nI (6 * (c + m)) from pk_mul 6 (c + m)) ?_
        refine r_iload rfl dX12_makes_152 rfl ?_
        refine e_iast (jn := 6 * (c + m)) rfl dX12_makes_154 (show 2 ≤ 422 ∧ 422 < 434 by decide) hS (KM_rf (Mod := [420, 422, 425, 426]) h) (by decide) h22 (vp_in_nI (n := 6 * (c + m)) (by omega) (by decide)) (nI_clamp (n := 6 * (c + m)) (by omega)) (fun h60 hS61 hF62 hN63 f64 => ?_)
        have f65 : h60 420 = .inr (12, [.int th, .long tr, .ref 421, .int ty, .int nx, .int tk, .int pl, .int va, .int fa, .int (nI c), .int (nI m), .int ss, .int wg, .ref 422, .ref 423, .ref 424, .ref 425, .ref 426, .ref 427, .ref 428, .ref 429, .ref 430, .ref 431, .ref 432, .ref 433]) := (hN63 420 (by decide)).trans h5
        have f66 : h60 424 = .inl (0, 72, .inl E) := (hN63 424 (by decide)).trans h24
        refine r_aload_n rfl dX12_makes_155 rfl ?_
        refine r_getv 13 rfl dX12_makes_156 (show 2 ≤ 420 ∧ 420 < 434 by decide) f65 fl_X12_17 rfl ?_
        refine r_bipush (v := 6) rfl dX12_makes_159 (by decide) ?_
        refine r_iload rfl dX12_makes_161 rfl ?_
        refine r_imul rfl dX12_makes_163 ?_
        refine r_eqi (y := nI (6 * (c + m))) (show 6 * (nI (c + m)) = nI (6 * (c + m)) from pk_mul 6 (c + m)) ?_
        refine r_iconst (v := 1) rfl dX12_makes_164 (by decide) ?_
        refine r_iadd rfl dX12_makes_165 ?_
        refine r_eqi (y := nI ((6 * (c + m)) + 1)) (show (nI (6 * (c + m))) + 1 = nI ((6 * (c + m)) + 1) from nI_add (6 * (c + m)) 1) ?_
        refine r_iload rfl dX12_makes_166 rfl ?_
        refine e_iast (jn := (6 * (c + m)) + 1) rfl dX12_makes_168 (show 2 ≤ 422 ∧ 422 < 434 by decide) hS61 hF62 (by decide) f64 (vp_in_nI (n := (6 * (c + m)) + 1) (by omega) (by decide)) (nI_clamp (n := (6 * (c + m)) + 1) (by omega)) (fun h67 hS68 hF69 hN70 f71 => ?_)
        have f72 : h67 420 = .inr (12, [.int th, .long tr, .ref 421, .int ty, .int nx, .int tk, .int pl, .int va, .int fa, .int (nI c), .int (nI m), .int ss, .int wg, .ref 422, .ref 423, .ref 424, .ref 425, .ref 426, .ref 427, .ref 428, .ref 429, .ref 430, .ref 431, .ref 432, .ref 433]) := (hN70 420 (by decide)).trans f65
        have f73 : h67 424 = .inl (0, 72, .inl E) := (hN70 424 (by decide)).trans f66
        refine r_aload_n rfl dX12_makes_169 rfl ?_
        refine r_getv 13 rfl dX12_makes_170 (show 2 ≤ 420 ∧ 420 < 434 by decide) f72 fl_X12_17 rfl ?_
        refine r_bipush (v := 6) rfl dX12_makes_173 (by decide) ?_
        refine r_iload rfl dX12_makes_175 rfl ?_
        refine r_imul rfl dX12_makes_177 ?_
        refine r_eqi (y := nI (6 * (c + m))) (show 6 * (nI (c + m)) = nI (6 * (c + m)) from pk_mul 6 (c + m)) ?_
        refine r_iconst (v := 2) rfl dX12_makes_178 (by decide) ?_
        refine r_iadd rfl dX12_makes_179 ?_
        refine r_eqi (y := nI ((6 * (c + m)) + 2)) (show (nI (6 * (c + m))) + 2 = nI ((6 * (c + m)) + 2) from nI_add (6 * (c + m)) 2) ?_
        refine r_iconst (v := 0) rfl dX12_makes_180 (by decide) ?_
        refine e_iast (jn := (6 * (c + m)) + 2) rfl dX12_makes_181 (show 2 ≤ 422 ∧ 422 < 434 by decide) hS68 hF69 (by decide) f71 (vp_in_nI (n := (6 * (c + m)) + 2) (by omega) (by decide)) (nI_clamp (n := (6 * (c + m)) + 2) (by omega)) (fun h74 hS75 hF76 hN77 f78 => ?_)
        have f79 : h74 420 = .inr (12, [.int th, .long tr, .ref 421, .int ty, .int nx, .int tk, .int pl, .int va, .int fa, .int (nI c), .int (nI m), .int ss, .int wg, .ref 422, .ref 423, .ref 424, .ref 425, .ref 426, .ref 427, .ref 428, .ref 429, .ref 430, .ref 431, .ref 432, .ref 433]) := (hN77 420 (by decide)).trans f72
        have f80 : h74 424 = .inl (0, 72, .inl E) := (hN77 424 (by decide)).trans f73
        refine r_aload_n rfl dX12_makes_182 rfl ?_
        refine r_getv 13 rfl dX12_makes_183 (show 2 ≤ 420 ∧ 420 < 434 by decide) f79 fl_X12_17 rfl ?_
        refine r_bipush (v := 6) rfl dX12_makes_186 (by decide) ?_
        refine r_iload rfl dX12_makes_188 rfl ?_
        refine r_imul rfl dX12_makes_190 ?_
        refine r_eqi (y := nI (6 * (c + m))) (show 6 * (nI (c + m)) = nI (6 * (c + m)) from pk_mul 6 (c + m)) ?_
        refine r_iconst (v := 3) rfl dX12_makes_191 (by decide) ?_
        refine r_iadd rfl dX12_makes_192 ?_
        refine r_eqi (y := nI ((6 * (c + m)) + 3)) (show (nI (6 * (c + m))) + 3 = nI ((6 * (c + m)) + 3) from nI_add (6 * (c + m)) 3) ?_
        refine r_iload_n rfl dX12_makes_193 rfl ?_
        refine e_iast (jn := (6 * (c + m)) + 3) rfl dX12_makes_194 (show 2 ≤ 422 ∧ 422 < 434 by decide) hS75 hF76 (by decide) f78 (vp_in_nI (n := (6 * (c + m)) + 3) (by omega) (by decide)) (nI_clamp (n := (6 * (c + m)) + 3) (by omega)) (fun h81 hS82 hF83 hN84 f85 => ?_)
        have f86 : h81 420 = .inr (12, [.int th, .long tr, .ref 421, .int ty, .int nx, .int tk, .int pl, .int va, .int fa, .int (nI c), .int (nI m), .int ss, .int wg, .ref 422, .ref 423, .ref 424, .ref 425, .ref 426, .ref 427, .ref 428, .ref 429, .ref 430, .ref 431, .ref 432, .ref 433]) := (hN84 420 (by decide)).trans f79
        have f87 : h81 424 = .inl (0, 72, .inl E) := (hN84 424 (by decide)).trans f80
        refine r_aload_n rfl dX12_makes_195 rfl ?_
        refine r_getv 13 rfl dX12_makes_196 (show 2 ≤ 420 ∧ 420 < 434 by decide) f86 fl_X12_17 rfl ?_
        refine r_bipush (v := 6) rfl dX12_makes_199 (by decide) ?_
        refine r_iload rfl dX12_makes_201 rfl ?_
        refine r_imul rfl dX12_makes_203 ?_
        refine r_eqi (y := nI (6 * (c + m))) (show 6 * (nI (c + m)) = nI (6 * (c + m)) from pk_mul 6 (c + m)) ?_
        refine r_iconst (v := 4) rfl dX12_makes_204 (by decide) ?_
        refine r_iadd rfl dX12_makes_205 ?_
        refine r_eqi (y := nI ((6 * (c + m)) + 4)) (show (nI (6 * (c + m))) + 4 = nI ((6 * (c + m)) + 4) from nI_add (6 * (c + m)) 4) ?_
        refine r_iload_n rfl dX12_makes_206 rfl ?_
        refine e_iast (jn := (6 * (c + m)) + 4) rfl dX12_makes_207 (show 2 ≤ 422 ∧ 422 < 434 by decide) hS82 hF83 (by decide) f85 (vp_in_nI (n := (6 * (c + m)) + 4) (by omega) (by decide)) (nI_clamp (n := (6 * (c + m)) + 4) (by omega)) (fun h88 hS89 hF90 hN91 f92 => ?_)
        have f93 : h88 420 = .inr (12, [.int th, .long tr, .ref 421, .int ty, .int nx, .int tk, .int pl, .int va, .int fa, .int (nI c), .int (nI m), .int ss, .int wg, .ref 422, .ref 423, .ref 424, .ref 425, .ref 426, .ref 427, .ref 428, .ref 429, .ref 430, .ref 431, .ref 432, .ref 433]) := (hN91 420 (by decide)).trans f86
        have f94 : h88 424 = .inl (0, 72, .inl E) := (hN91 424 (by decide)).trans f87
        refine r_aload_n rfl dX12_makes_208 rfl ?_
        refine r_getv 13 rfl dX12_makes_209 (show 2 ≤ 420 ∧ 420 < 434 by decide) f93 fl_X12_17 rfl ?_
        refine r_bipush (v := 6) rfl dX12_makes_212 (by decide) ?_
        refine r_iload rfl dX12_makes_214 rfl ?_
        refine r_imul rfl dX12_makes_216 ?_
        refine r_eqi (y := nI (6 * (c + m))) (show 6 * (nI (c + m)) = nI (6 * (c + m)) from pk_mul 6 (c + m)) ?_
        refine r_iconst (v := 5) rfl dX12_makes_217 (by decide) ?_
        refine r_iadd rfl dX12_makes_218 ?_
        refine r_eqi (y := nI ((6 * (c + m)) + 5)) (show (nI (6 * (c + m))) + 5 = nI ((6 * (c + m)) + 5) from nI_add (6 * (c + m)) 5) ?_
        refine r_aload_n rfl dX12_makes_219 rfl ?_
        refine r_getv 15 rfl dX12_makes_220 (show 2 ≤ 420 ∧ 420 < 434 by decide) f93 fl_X12_23 rfl ?_
        refine r_iconst (v := 3) rfl dX12_makes_223 (by decide) ?_
        refine r_iload_n rfl dX12_makes_224 rfl ?_
        refine r_imul rfl dX12_makes_225 ?_
        refine r_eqi (y := nI (3 * s)) (show 3 * (nI s) = nI (3 * s) from pk_mul 3 s) ?_
        refine r_iconst (v := 2) rfl dX12_makes_226 (by decide) ?_
        refine r_iadd rfl dX12_makes_227 ?_
        refine r_eqi (y := nI ((3 * s) + 2)) (show (nI (3 * s)) + 2 = nI ((3 * s) + 2) from nI_add (3 * s) 2) ?_
        refine r_ialdv (jn := (3 * s) + 2) (v := z) rfl dX12_makes_228 (show 2 ≤ 424 ∧ 424 < 434 by decide) f94 (vp_in_nI (n := (3 * s) + 2) (by omega) (by decide)) (nI_clamp (n := (3 * s) + 2) (by omega)) hE3 ?_
        refine e_iast (jn := (6 * (c + m)) + 5) rfl dX12_makes_229 (show 2 ≤ 422 ∧ 422 < 434 by decide) hS89 hF90 (by decide) f92 (vp_in_nI (n := (6 * (c + m)) + 5) (by omega) (by decide)) (nI_clamp (n := (6 * (c + m)) + 5) (by omega)) (fun h95 hS96 hF97 hN98 f99 => ?_)
        have f100 : h95 420 = .inr (12, [.int th, .long tr, .ref 421, .int ty, .int nx, .int tk, .int pl, .int va, .int fa, .int (nI c), .int (nI m), .int ss, .int wg, .ref 422, .ref 423, .ref 424, .ref 425, .ref 426, .ref 427, .ref 428, .ref 429, .ref 430, .ref 431, .ref 432, .ref 433]) := (hN98 420 (by decide)).trans f93
        have f101 : h95 424 = .inl (0, 72, .inl E) := (hN98 424 (by decide)).trans f94
        subst e56
        subst e54
        subst e52
        refine EV.post ?_ (y_makes_tail hS96 f100 hc hm hcm hi hj)
        rintro a1 a2 a3 ⟨b1, b2, b3, b4, b5⟩
        exact ⟨b1, b2, KM_tr hF97 (KM_sb (by decide) b3), Or.inl ⟨⟨c57, c58, c59⟩, b5, (b3 422 (by decide)).trans f99, b4⟩⟩
      · refine r_iconst (v := 0) rfl dX12_makes_130 (by decide) ?_
        subst e56
        subst e54
        subst e52
        exact r_ret dX12_makes_131 (rt_z rfl (Or.inl rfl)) ⟨rfl, hS, (KM_rf (Mod := [420, 422, 425, 426]) h), Or.inr ⟨fun q => c59 q.2.2, h5, h22, rfl⟩⟩
/-- THE END, as the reference looks for it -/
def enM (G : Nat → Int32) : Nat → Nat → Int32
  | 0, _ => -9
  | n + 1, i => if G (6 * i) = 0 ∧ G (6 * i + 1) = 0 then nI i else enM G n (i + 1)
set_option maxRecDepth 20000 in
set_option maxHeartbeats 1000000 in
theorem y_en_z {xs : Nat → Int32} {L d : Nat} {h : ev_H} {th : Int32} {tr : Int64} {ty nx tk pl va fa ss wg : Int32} {c m : Nat} {i : Nat} {G : Nat → Int32} (hS : SH h) (h5 : h 420 = c420 th tr ty nx tk pl va fa (nI c) (nI m) ss wg) (hc : c ≤ 16) (hm : m ≤ 24) (h22 : h 422 = cI 240 G) (hi : i = c + m) : EV xs L (d + 0) 0 0 M_X12_ending 434 h 2 [some (.ref 420), some (.int (nI i))] [] (fun sz' h' r => sz' = 434 ∧ h' = h ∧ r = [.int (enM G 0 i)]) := by
  refine r_iload_n rfl dX12_ending_2 rfl ?_
  refine r_aload_n rfl dX12_ending_3 rfl ?_
  refine r_getv 9 rfl dX12_ending_4 (show 2 ≤ 420 ∧ 420 < 434 by decide) h5 fl_X12_112 rfl ?_
  refine r_aload_n rfl dX12_ending_7 rfl ?_
  refine r_getv 10 rfl dX12_ending_8 (show 2 ≤ 420 ∧ 420 < 434 by decide) h5 fl_X12_115 rfl ?_
  refine r_iadd rfl dX12_ending_11 ?_
  refine r_eqi (y := nI (c + m)) (show (nI c) + (nI m) = nI (c + m) from nI_add c m) ?_
  refine r_icmp_ge (tgt := 49) rfl rfl dX12_ending_12 (fun _ => ?_) (fun zc => absurd (show nI (c + m) ≤ nI i from nI_le (a := c + m) (b := i) (by omega) (by omega)) zc)
  refine r_bipush (v := (-9)) rfl dX12_ending_49 (by decide) ?_
  exact r_ret dX12_ending_51 (rt_i rfl) ⟨rfl, rfl, rfl⟩
set_option maxRecDepth 20000 in
set_option maxHeartbeats 1000000 in
theorem y_en_s {xs : Nat → Int32} {L d : Nat} {h : ev_H} {th : Int32} {tr : Int64} {ty nx tk pl va fa ss wg : Int32} {c m : Nat} {i n : Nat} {G : Nat → Int32} (hS : SH h) (h5 : h 420 = c420 th tr ty nx tk pl va fa (nI c) (nI m) ss wg) (hc : c ≤ 16) (hm : m ≤ 24) (h22 : h 422 = cI 240 G) (hi : i + (n + 1) = c + m) (ih : EV xs L (d + 0) 0 0 M_X12_ending 434 h 2 [some (.ref 420), some (.int (nI (i + 1)))] [] (fun sz' h' r => sz' = 434 ∧ h' = h ∧ r = [.int (enM G n (i + 1))])) : EV xs L (d + 0) 0 0 M_X12_ending 434 h 2 [some (.ref 420), some (.int (nI i))] [] (fun sz' h' r => sz' = 434 ∧ h' = h ∧ r = [.int (enM G (n + 1) i)]) := by
  refine r_iload_n rfl dX12_ending_2 rfl ?_
  refine r_aload_n rfl dX12_ending_3 rfl ?_
  refine r_getv 9 rfl dX12_ending_4 (show 2 ≤ 420 ∧ 420 < 434 by decide) h5 fl_X12_112 rfl ?_
  refine r_aload_n rfl dX12_ending_7 rfl ?_
  refine r_getv 10 rfl dX12_ending_8 (show 2 ≤ 420 ∧ 420 < 434 by decide) h5 fl_X12_115 rfl ?_
  refine r_iadd rfl dX12_ending_11 ?_
  refine r_eqi (y := nI (c + m)) (show (nI c) + (nI m) = nI (c + m) from nI_add c m) ?_
  refine r_icmp_ge (tgt := 49) rfl rfl dX12_ending_12 (fun zc => absurd zc (show ¬ nI (c + m) ≤ nI i from nI_ge (a := i) (b := c + m) (by omega) (by omega))) (fun _ => ?_)
  refine r_aload_n rfl dX12_ending_15 rfl ?_
  refine r_getv 13 rfl dX12_ending_16 (show 2 ≤ 420 ∧ 420 < 434 by decide) h5 fl_X12_17 rfl ?_
  refine r_bipush (v := 6) rfl dX12_ending_19 (by decide) ?_
  refine r_iload_n rfl dX12_ending_21 rfl ?_
  refine r_imul rfl dX12_ending_22 ?_
  refine r_eqi (y := nI (6 * i)) (show 6 * (nI i) = nI (6 * i) from pk_mul 6 i) ?_
  refine r_ialdv (jn := 6 * i) (v := G (6 * i)) rfl dX12_ending_23 (show 2 ≤ 422 ∧ 422 < 434 by decide) h22 (vp_in_nI (n := 6 * i) (by omega) (by decide)) (nI_clamp (n := 6 * i) (by omega)) rfl ?_
  refine r_if_ne (tgt := 43) rfl rfl dX12_ending_24 (fun c51 => ?_) (fun c51 => ?_)
  · refine r_iinc (y := nI (i + 1)) (ls' := [some (.ref 420), some (.int (nI (i + 1)))]) rfl dX12_ending_43 rfl (nI_1 i) (Nat.le_of_ble_eq_true rfl) rfl ?_
    refine r_goto (pc' := 2) rfl dX12_ending_46 ?_
    rw [enM, if_neg (fun q => c51 q.1)]
    exact ih
  · refine r_aload_n rfl dX12_ending_27 rfl ?_
    refine r_getv 13 rfl dX12_ending_28 (show 2 ≤ 420 ∧ 420 < 434 by decide) h5 fl_X12_17 rfl ?_
    refine r_bipush (v := 6) rfl dX12_ending_31 (by decide) ?_
    refine r_iload_n rfl dX12_ending_33 rfl ?_
    refine r_imul rfl dX12_ending_34 ?_
    refine r_eqi (y := nI (6 * i)) (show 6 * (nI i) = nI (6 * i) from pk_mul 6 i) ?_
    refine r_iconst (v := 1) rfl dX12_ending_35 (by decide) ?_
    refine r_iadd rfl dX12_ending_36 ?_
    refine r_eqi (y := nI ((6 * i) + 1)) (show (nI (6 * i)) + 1 = nI ((6 * i) + 1) from nI_add (6 * i) 1) ?_
    refine r_ialdv (jn := (6 * i) + 1) (v := G ((6 * i) + 1)) rfl dX12_ending_37 (show 2 ≤ 422 ∧ 422 < 434 by decide) h22 (vp_in_nI (n := (6 * i) + 1) (by omega) (by decide)) (nI_clamp (n := (6 * i) + 1) (by omega)) rfl ?_
    refine r_if_ne (tgt := 43) rfl rfl dX12_ending_38 (fun c52 => ?_) (fun c52 => ?_)
    · refine r_iinc (y := nI (i + 1)) (ls' := [some (.ref 420), some (.int (nI (i + 1)))]) rfl dX12_ending_43 rfl (nI_1 i) (Nat.le_of_ble_eq_true rfl) rfl ?_
      refine r_goto (pc' := 2) rfl dX12_ending_46 ?_
      rw [enM, if_neg (fun q => c52 q.2)]
      exact ih
    · refine r_iload_n rfl dX12_ending_41 rfl ?_
      exact r_ret dX12_ending_42 (rt_i rfl) ⟨rfl, rfl, by rw [enM, if_pos ⟨c51, c52⟩]⟩
theorem y_en {xs : Nat → Int32} {L d : Nat} {h : ev_H} {th : Int32} {tr : Int64} {ty nx tk pl va fa ss wg : Int32} {c m : Nat} {G : Nat → Int32} (hS : SH h) (h5 : h 420 = c420 th tr ty nx tk pl va fa (nI c) (nI m) ss wg) (hc : c ≤ 16) (hm : m ≤ 24) (h22 : h 422 = cI 240 G) : ∀ (n i : Nat), i + n = c + m → EV xs L (d + 0) 0 0 M_X12_ending 434 h 2 [some (.ref 420), some (.int (nI i))] [] (fun sz' h' r => sz' = 434 ∧ h' = h ∧ r = [.int (enM G n i)]) := by
  intro n
  induction n with
  | zero => intro i hi; exact y_en_z hS h5 hc hm h22 (by omega)
  | succ n ih => intro i hi; exact y_en_s hS h5 hc hm h22 hi (ih (i + 1) (by omega))
set_option maxRecDepth 20000 in
set_option maxHeartbeats 1000000 in
theorem y_X12_ending {xs : Nat → Int32} {L d : Nat} {h : ev_H} {th : Int32} {tr : Int64} {ty nx tk pl va fa ss wg : Int32} {c m : Nat} {G : Nat → Int32} (hS : SH h) (h5 : h 420 = c420 th tr ty nx tk pl va fa (nI c) (nI m) ss wg) (hc : c ≤ 16) (hm : m ≤ 24) (h22 : h 422 = cI 240 G) : EV xs L (d + 0) 0 0 M_X12_ending 434 h 0 [some (.ref 420), none] [] (fun sz' h' r => sz' = 434 ∧ h' = h ∧ r = [.int (enM G (c + m) 0)]) := by
  refine r_iconst (v := 0) rfl dX12_ending_0 (by decide) ?_
  refine r_istore_n (ls' := [some (.ref 420), some (.int 0)]) rfl dX12_ending_1 (Nat.le_of_ble_eq_true rfl) rfl ?_
  exact y_en hS h5 hc hm h22 (c + m) 0 (by omega)
