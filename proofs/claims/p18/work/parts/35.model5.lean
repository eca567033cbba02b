theorem mskp_le (g : Nat → Int32) (n : Nat) : ∀ m p, p + m = n → p ≤ mskp g n m p ∧ mskp g n m p ≤ n
  | 0, p, h => ⟨Nat.le_refl _, by show p ≤ n; omega⟩
  | m + 1, p, h => by
    unfold mskp
    split
    · have := mskp_le g n m (p + 1) (by omega)
      exact ⟨by omega, this.2⟩
    · exact ⟨Nat.le_refl _, by omega⟩
/-- the reference's token at p: its place, what is next, its kind, its value -/
def maS (g : Nat → Int32) (n p : Nat) : Nat := mskp g n (n - p) p
def maN (g : Nat → Int32) (n p : Nat) : Nat := if 0 ≤ mbA g n (maS g n p) then (if inR (mbA g n (maS g n p)) 97 122 = 0 then (if inR (mbA g n (maS g n p)) 48 57 = 0 then maS g n p + 1 else mnup g n (n - maS g n p) (maS g n p)) else mwdp g n (n - maS g n p) (maS g n p)) else maS g n p
def maK (g : Nat → Int32) (n p : Nat) (va : Int32) : Int32 := if 0 ≤ (mbA g n (maS g n p)) then (if (inR (mbA g n (maS g n p)) 97 122) = 0 then (if (inR (mbA g n (maS g n p)) 48 57) = 0 then (if ¬ (mbA g n (maS g n p)) = 33 then (if ¬ (mbA g n (maS g n p)) = 59 then (7) else (6)) else (5)) else (if 99 < (mnuv g n (n - (maS g n p)) (maS g n p) 0) then (7) else (if ¬ (mbA g n (maS g n p)) = 48 then (4) else (if ((nI (mnup g n (n - (maS g n p)) (maS g n p))) - (nI (maS g n p))) ≤ 1 then (4) else (7))))) else (mwK g n (maS g n p) ((nI (mwdp g n (n - (maS g n p)) (maS g n p))) - (nI (maS g n p))) va)) else (0)
def maV (g : Nat → Int32) (n p : Nat) (va : Int32) : Int32 := if 0 ≤ (mbA g n (maS g n p)) then (if (inR (mbA g n (maS g n p)) 97 122) = 0 then (if (inR (mbA g n (maS g n p)) 48 57) = 0 then (if ¬ (mbA g n (maS g n p)) = 33 then (if ¬ (mbA g n (maS g n p)) = 59 then (va) else (va)) else (va)) else (if 99 < (mnuv g n (n - (maS g n p)) (maS g n p) 0) then (mnuv g n (n - (maS g n p)) (maS g n p) 0) else (if ¬ (mbA g n (maS g n p)) = 48 then (mnuv g n (n - (maS g n p)) (maS g n p) 0) else (if ((nI (mnup g n (n - (maS g n p)) (maS g n p))) - (nI (maS g n p))) ≤ 1 then (mnuv g n (n - (maS g n p)) (maS g n p) 0) else (mnuv g n (n - (maS g n p)) (maS g n p) 0))))) else (mwV g n (maS g n p) ((nI (mwdp g n (n - (maS g n p)) (maS g n p))) - (nI (maS g n p))) va)) else (va)
set_option maxRecDepth 20000 in
set_option maxHeartbeats 1000000 in
theorem s_X12_advances {xs : Nat → Int32} {L d : Nat} {h : ev_H} {th : Int32} {tr : Int64} {tk pl va fa cl md ss wg : Int32} {g : Nat → Int32} {n p : Nat} (hn : n ≤ 300) (hp : p ≤ n) (h5 : h 420 = c420 th tr (nI n) (nI p) tk pl va fa cl md ss wg) (h6 : h 421 = c421 g) : EV xs L (d + 2) 0 0 M_X12_advances 434 h 0 [some (.ref 420), none] [] (fun sz' h' r => sz' = 434 ∧ h' = va_up h 420 (c420 th tr (nI n) (nI (maN g n p)) (maK g n p va) (nI (maS g n p)) (maV g n p va) fa cl md ss wg) ∧ r = []) := by
  obtain ⟨q, hq⟩ : ∃ q, q = mskp g n (n - p) p := ⟨_, rfl⟩
  have hqn0 : q ≤ n := by rw [hq]; exact (mskp_le g n (n - p) p (by omega)).2
  refine s_adv_skip hn (n - p) p (by omega) h h5 h6 (fun h51 eh52 => ?_)
  rw [← hq] at eh52
  have f53 : h51 420 = .inr (12, [.int th, .long tr, .ref 421, .int (nI n), .int (nI q), .int tk, .int pl, .int va, .int fa, .int cl, .int md, .int ss, .int wg, .ref 422, .ref 423, .ref 424, .ref 425, .ref 426, .ref 427, .ref 428, .ref 429, .ref 430, .ref 431, .ref 432, .ref 433]) := by rw [eh52]; exact va_up_self _ _ _
  have f54 : h51 421 = .inl (0, 300, .inl g) := by rw [eh52, va_up_ne _ _ (fun q => by rw [q, h5] at h6; cases h6)]; exact h6
  refine r_aload_n rfl dX12_advances_26 rfl ?_
  refine r_aload_n rfl dX12_advances_27 rfl ?_
  refine r_getv 4 rfl dX12_advances_28 (show 2 ≤ 420 ∧ 420 < 434 by decide) f53 fl_X12_82 rfl ?_
  refine r_putv 6 (fs' := [.int th, .long tr, .ref 421, .int (nI n), .int (nI q), .int tk, .int (nI q), .int va, .int fa, .int cl, .int md, .int ss, .int wg, .ref 422, .ref 423, .ref 424, .ref 425, .ref 426, .ref 427, .ref 428, .ref 429, .ref 430, .ref 431, .ref 432, .ref 433]) rfl dX12_advances_31 (show 2 ≤ 420 ∧ 420 < 434 by decide) f53 (fp_X12_69 rfl _) (Nat.le_of_ble_eq_true rfl) rfl (fun h55 eh56 => ?_)
  have f57 : h55 420 = .inr (12, [.int th, .long tr, .ref 421, .int (nI n), .int (nI q), .int tk, .int (nI q), .int va, .int fa, .int cl, .int md, .int ss, .int wg, .ref 422, .ref 423, .ref 424, .ref 425, .ref 426, .ref 427, .ref 428, .ref 429, .ref 430, .ref 431, .ref 432, .ref 433]) := by rw [eh56]; exact va_up_self _ _ _
  have f58 : h55 421 = .inl (0, 300, .inl g) := by rw [eh56, va_up_ne _ _ (fun q => by rw [q, f53] at f54; cases f54)]; exact f54
  refine r_aload_n rfl dX12_advances_34 rfl ?_
  refine r_aload_n rfl dX12_advances_35 rfl ?_
  refine r_getv 4 rfl dX12_advances_36 (show 2 ≤ 420 ∧ 420 < 434 by decide) f57 fl_X12_82 rfl ?_
  refine cl_X12_72 rfl rfl dX12_advances_39 (show 2 ≤ 420 ∧ 420 < 434 by decide).1 (show 2 ≤ 420 ∧ 420 < 434 by decide).2 f57 (Nat.le_of_ble_eq_true rfl) (s_X12_byteAt (q := q) hn (by omega) f57 f58) ?_
  rintro _ h59 _ ⟨rfl, e60, rfl⟩
  replace e60 := e60.symm
  subst e60
  refine r_topi (fun x61 e62 => ?_)
  refine r_istore_n (ls' := [some (.ref 420), some (.int x61)]) rfl dX12_advances_42 (Nat.le_of_ble_eq_true rfl) rfl ?_
  refine r_iload_n rfl dX12_advances_43 rfl ?_
  refine r_if_ge (tgt := 55) rfl rfl dX12_advances_44 (fun c63 => ?_) (fun c63 => ?_)
  · refine r_iload_n rfl dX12_advances_55 rfl ?_
    refine r_bipush (v := 97) rfl dX12_advances_56 (by decide) ?_
    refine r_bipush (v := 122) rfl dX12_advances_58 (by decide) ?_
    refine cl_X12_60 rfl rfl dX12_advances_60 (Nat.le_of_ble_eq_true rfl) s_X12_in ?_
    rintro _ h64 _ ⟨rfl, e65, rfl⟩
    replace e65 := e65.symm
    subst e65
    refine r_if_eq (tgt := 113) rfl rfl dX12_advances_63 (fun c66 => ?_) (fun c66 => ?_)
    · refine r_iload_n rfl dX12_advances_113 rfl ?_
      refine r_bipush (v := 48) rfl dX12_advances_114 (by decide) ?_
      refine r_bipush (v := 57) rfl dX12_advances_116 (by decide) ?_
      refine cl_X12_60 rfl rfl dX12_advances_118 (Nat.le_of_ble_eq_true rfl) s_X12_in ?_
      rintro _ h67 _ ⟨rfl, e68, rfl⟩
      replace e68 := e68.symm
      subst e68
      refine r_if_eq (tgt := 240) rfl rfl dX12_advances_121 (fun c69 => ?_) (fun c69 => ?_)
      · refine r_aload_n rfl dX12_advances_240 rfl ?_
        refine r_dup rfl dX12_advances_241 rfl ?_
        refine r_getv 4 rfl dX12_advances_242 (show 2 ≤ 420 ∧ 420 < 434 by decide) f57 fl_X12_82 rfl ?_
        refine r_iconst (v := 1) rfl dX12_advances_245 (by decide) ?_
        refine r_iadd rfl dX12_advances_246 ?_
        refine r_eqi (y := nI (q + 1)) (nI_1 q) ?_
        refine r_putv 4 (fs' := [.int th, .long tr, .ref 421, .int (nI n), .int (nI (q + 1)), .int tk, .int (nI q), .int va, .int fa, .int cl, .int md, .int ss, .int wg, .ref 422, .ref 423, .ref 424, .ref 425, .ref 426, .ref 427, .ref 428, .ref 429, .ref 430, .ref 431, .ref 432, .ref 433]) rfl dX12_advances_247 (show 2 ≤ 420 ∧ 420 < 434 by decide) f57 (fp_X12_82 rfl _) (Nat.le_of_ble_eq_true rfl) rfl (fun h70 eh71 => ?_)
        have f72 : h70 420 = .inr (12, [.int th, .long tr, .ref 421, .int (nI n), .int (nI (q + 1)), .int tk, .int (nI q), .int va, .int fa, .int cl, .int md, .int ss, .int wg, .ref 422, .ref 423, .ref 424, .ref 425, .ref 426, .ref 427, .ref 428, .ref 429, .ref 430, .ref 431, .ref 432, .ref 433]) := by rw [eh71]; exact va_up_self _ _ _
        have f73 : h70 421 = .inl (0, 300, .inl g) := by rw [eh71, va_up_ne _ _ (fun q => by rw [q, f57] at f58; cases f58)]; exact f58
        refine r_aload_n rfl dX12_advances_250 rfl ?_
        refine r_iload_n rfl dX12_advances_251 rfl ?_
        refine r_bipush (v := 33) rfl dX12_advances_252 (by decide) ?_
        refine r_icmp_ne (tgt := 261) rfl rfl dX12_advances_254 (fun c74 => ?_) (fun c74 => ?_)
        · refine r_iload_n rfl dX12_advances_261 rfl ?_
          refine r_bipush (v := 59) rfl dX12_advances_262 (by decide) ?_
          refine r_icmp_ne (tgt := 272) rfl rfl dX12_advances_264 (fun c75 => ?_) (fun c75 => ?_)
          · refine r_bipush (v := 7) rfl dX12_advances_272 (by decide) ?_
            refine r_putv 5 (fs' := [.int th, .long tr, .ref 421, .int (nI n), .int (nI (q + 1)), .int 7, .int (nI q), .int va, .int fa, .int cl, .int md, .int ss, .int wg, .ref 422, .ref 423, .ref 424, .ref 425, .ref 426, .ref 427, .ref 428, .ref 429, .ref 430, .ref 431, .ref 432, .ref 433]) rfl dX12_advances_274 (show 2 ≤ 420 ∧ 420 < 434 by decide) f72 (fp_X12_76 rfl _) (Nat.le_of_ble_eq_true rfl) rfl (fun h76 eh77 => ?_)
            have f78 : h76 420 = .inr (12, [.int th, .long tr, .ref 421, .int (nI n), .int (nI (q + 1)), .int 7, .int (nI q), .int va, .int fa, .int cl, .int md, .int ss, .int wg, .ref 422, .ref 423, .ref 424, .ref 425, .ref 426, .ref 427, .ref 428, .ref 429, .ref 430, .ref 431, .ref 432, .ref 433]) := by rw [eh77]; exact va_up_self _ _ _
            have f79 : h76 421 = .inl (0, 300, .inl g) := by rw [eh77, va_up_ne _ _ (fun q => by rw [q, f72] at f73; cases f73)]; exact f73
            subst e62
            subst eh77
            subst eh71
            subst eh56
            subst eh52
            exact r_ret dX12_advances_277 (rt_v rfl) ⟨rfl, by simp only [maN, maK, maV, maS, ← hq, if_pos c63, if_pos c66, if_pos c69, if_pos c74, if_pos c75, va_up_up], rfl⟩
          · refine r_bipush (v := 6) rfl dX12_advances_267 (by decide) ?_
            refine r_goto (pc' := 274) rfl dX12_advances_269 ?_
            refine r_putv 5 (fs' := [.int th, .long tr, .ref 421, .int (nI n), .int (nI (q + 1)), .int 6, .int (nI q), .int va, .int fa, .int cl, .int md, .int ss, .int wg, .ref 422, .ref 423, .ref 424, .ref 425, .ref 426, .ref 427, .ref 428, .ref 429, .ref 430, .ref 431, .ref 432, .ref 433]) rfl dX12_advances_274 (show 2 ≤ 420 ∧ 420 < 434 by decide) f72 (fp_X12_76 rfl _) (Nat.le_of_ble_eq_true rfl) rfl (fun h80 eh81 => ?_)
            have f82 : h80 420 = .inr (12, [.int th, .long tr, .ref 421, .int (nI n), .int (nI (q + 1)), .int 6, .int (nI q), .int va, .int fa, .int cl, .int md, .int ss, .int wg, .ref 422, .ref 423, .ref 424, .ref 425, .ref 426, .ref 427, .ref 428, .ref 429, .ref 430, .ref 431, .ref 432, .ref 433]) := by rw [eh81]; exact va_up_self _ _ _
            have f83 : h80 421 = .inl (0, 300, .inl g) := by rw [eh81, va_up_ne _ _ (fun q => by rw [q, f72] at f73; cases f73)]; exact f73
            subst e62
            subst eh81
            subst eh71
            subst eh56
            subst eh52
            exact r_ret dX12_advances_277 (rt_v rfl) ⟨rfl, by simp only [maN, maK, maV, maS, ← hq, if_pos c63, if_pos c66, if_pos c69, if_pos c74, if_neg (not_not_intro c75), va_up_up], rfl⟩
        · refine r_iconst (v := 5) rfl dX12_advances_257 (by decide) ?_
          refine r_goto (pc' := 274) rfl dX12_advances_258 ?_
          refine r_putv 5 (fs' := [.int th, .long tr, .ref 421, .int (nI n), .int (nI (q + 1)), .int 5, .int (nI q), .int va, .int fa, .int cl, .int md, .int ss, .int wg, .ref 422, .ref 423, .ref 424, .ref 425, .ref 426, .ref 427, .ref 428, .ref 429, .ref 430, .ref 431, .ref 432, .ref 433]) rfl dX12_advances_274 (show 2 ≤ 420 ∧ 420 < 434 by decide) f72 (fp_X12_76 rfl _) (Nat.le_of_ble_eq_true rfl) rfl (fun h84 eh85 => ?_)
          have f86 : h84 420 = .inr (12, [.int th, .long tr, .ref 421, .int (nI n), .int (nI (q + 1)), .int 5, .int (nI q), .int va, .int fa, .int cl, .int md, .int ss, .int wg, .ref 422, .ref 423, .ref 424, .ref 425, .ref 426, .ref 427, .ref 428, .ref 429, .ref 430, .ref 431, .ref 432, .ref 433]) := by rw [eh85]; exact va_up_self _ _ _
          have f87 : h84 421 = .inl (0, 300, .inl g) := by rw [eh85, va_up_ne _ _ (fun q => by rw [q, f72] at f73; cases f73)]; exact f73
          subst e62
          subst eh85
          subst eh71
          subst eh56
          subst eh52
          exact r_ret dX12_advances_277 (rt_v rfl) ⟨rfl, by simp only [maN, maK, maV, maS, ← hq, if_pos c63, if_pos c66, if_pos c69, if_neg (not_not_intro c74), va_up_up], rfl⟩
      · refine r_aload_n rfl dX12_advances_124 rfl ?_
        refine r_iconst (v := 0) rfl dX12_advances_125 (by decide) ?_
        refine r_putv 7 (fs' := [.int th, .long tr, .ref 421, .int (nI n), .int (nI q), .int tk, .int (nI q), .int 0, .int fa, .int cl, .int md, .int ss, .int wg, .ref 422, .ref 423, .ref 424, .ref 425, .ref 426, .ref 427, .ref 428, .ref 429, .ref 430, .ref 431, .ref 432, .ref 433]) rfl dX12_advances_126 (show 2 ≤ 420 ∧ 420 < 434 by decide) f57 (fp_X12_79 rfl _) (Nat.le_of_ble_eq_true rfl) rfl (fun h88 eh89 => ?_)
        have f90 : h88 420 = .inr (12, [.int th, .long tr, .ref 421, .int (nI n), .int (nI q), .int tk, .int (nI q), .int 0, .int fa, .int cl, .int md, .int ss, .int wg, .ref 422, .ref 423, .ref 424, .ref 425, .ref 426, .ref 427, .ref 428, .ref 429, .ref 430, .ref 431, .ref 432, .ref 433]) := by rw [eh89]; exact va_up_self _ _ _
        have f91 : h88 421 = .inl (0, 300, .inl g) := by rw [eh89, va_up_ne _ _ (fun q => by rw [q, f57] at f58; cases f58)]; exact f58
        refine s_adv_num hn (n - q) q (by omega) 0 h88 f90 f91 (fun h92 eh93 => ?_)
        have f94 : h92 420 = .inr (12, [.int th, .long tr, .ref 421, .int (nI n), .int (nI (mnup g n (n - q) q)), .int tk, .int (nI q), .int (mnuv g n (n - q) q 0), .int fa, .int cl, .int md, .int ss, .int wg, .ref 422, .ref 423, .ref 424, .ref 425, .ref 426, .ref 427, .ref 428, .ref 429, .ref 430, .ref 431, .ref 432, .ref 433]) := by rw [eh93]; exact va_up_self _ _ _
        have f95 : h92 421 = .inl (0, 300, .inl g) := by rw [eh93, va_up_ne _ _ (fun q => by rw [q, f90] at f91; cases f91)]; exact f91
        refine r_aload_n rfl dX12_advances_199 rfl ?_
        refine r_aload_n rfl dX12_advances_200 rfl ?_
        refine r_getv 7 rfl dX12_advances_201 (show 2 ≤ 420 ∧ 420 < 434 by decide) f94 fl_X12_79 rfl ?_
        refine r_bipush (v := 99) rfl dX12_advances_204 (by decide) ?_
        refine r_icmp_gt (tgt := 228) rfl rfl dX12_advances_206 (fun c96 => ?_) (fun c96 => ?_)
        · refine r_bipush (v := 7) rfl dX12_advances_228 (by decide) ?_
          refine r_goto (pc' := 234) rfl dX12_advances_230 ?_
          refine r_putv 5 (fs' := [.int th, .long tr, .ref 421, .int (nI n), .int (nI (mnup g n (n - q) q)), .int 7, .int (nI q), .int (mnuv g n (n - q) q 0), .int fa, .int cl, .int md, .int ss, .int wg, .ref 422, .ref 423, .ref 424, .ref 425, .ref 426, .ref 427, .ref 428, .ref 429, .ref 430, .ref 431, .ref 432, .ref 433]) rfl dX12_advances_234 (show 2 ≤ 420 ∧ 420 < 434 by decide) f94 (fp_X12_76 rfl _) (Nat.le_of_ble_eq_true rfl) rfl (fun h97 eh98 => ?_)
          have f99 : h97 420 = .inr (12, [.int th, .long tr, .ref 421, .int (nI n), .int (nI (mnup g n (n - q) q)), .int 7, .int (nI q), .int (mnuv g n (n - q) q 0), .int fa, .int cl, .int md, .int ss, .int wg, .ref 422, .ref 423, .ref 424, .ref 425, .ref 426, .ref 427, .ref 428, .ref 429, .ref 430, .ref 431, .ref 432, .ref 433]) := by rw [eh98]; exact va_up_self _ _ _
          have f100 : h97 421 = .inl (0, 300, .inl g) := by rw [eh98, va_up_ne _ _ (fun q => by rw [q, f94] at f95; cases f95)]; exact f95
          refine r_goto (pc' := 277) rfl dX12_advances_237 ?_
          subst e62
          subst eh98
          subst eh93
          subst eh89
          subst eh56
          subst eh52
          exact r_ret dX12_advances_277 (rt_v rfl) ⟨rfl, by simp only [maN, maK, maV, maS, ← hq, if_pos c63, if_pos c66, if_neg c69, if_pos c96, va_up_up], rfl⟩
        · refine r_iload_n rfl dX12_advances_209 rfl ?_
          refine r_bipush (v := 48) rfl dX12_advances_210 (by decide) ?_
          refine r_icmp_ne (tgt := 233) rfl rfl dX12_advances_212 (fun c101 => ?_) (fun c101 => ?_)
          · refine r_iconst (v := 4) rfl dX12_advances_233 (by decide) ?_
            refine r_putv 5 (fs' := [.int th, .long tr, .ref 421, .int (nI n), .int (nI (mnup g n (n - q) q)), .int 4, .int (nI q), .int (mnuv g n (n - q) q 0), .int fa, .int cl, .int md, .int ss, .int wg, .ref 422, .ref 423, .ref 424, .ref 425, .ref 426, .ref 427, .ref 428, .ref 429, .ref 430, .ref 431, .ref 432, .ref 433]) rfl dX12_advances_234 (show 2 ≤ 420 ∧ 420 < 434 by decide) f94 (fp_X12_76 rfl _) (Nat.le_of_ble_eq_true rfl) rfl (fun h102 eh103 => ?_)
            have f104 : h102 420 = .inr (12, [.int th, .long tr, .ref 421, .int (nI n), .int (nI (mnup g n (n - q) q)), .int 4, .int (nI q), .int (mnuv g n (n - q) q 0), .int fa, .int cl, .int md, .int ss, .int wg, .ref 422, .ref 423, .ref 424, .ref 425, .ref 426, .ref 427, .ref 428, .ref 429, .ref 430, .ref 431, .ref 432, .ref 433]) := by rw [eh103]; exact va_up_self _ _ _
            have f105 : h102 421 = .inl (0, 300, .inl g) := by rw [eh103, va_up_ne _ _ (fun q => by rw [q, f94] at f95; cases f95)]; exact f95
            refine r_goto (pc' := 277) rfl dX12_advances_237 ?_
            subst e62
            subst eh103
            subst eh93
            subst eh89
            subst eh56
            subst eh52
            exact r_ret dX12_advances_277 (rt_v rfl) ⟨rfl, by simp only [maN, maK, maV, maS, ← hq, if_pos c63, if_pos c66, if_neg c69, if_neg c96, if_pos c101, va_up_up], rfl⟩
          · refine r_aload_n rfl dX12_advances_215 rfl ?_
            refine r_getv 4 rfl dX12_advances_216 (show 2 ≤ 420 ∧ 420 < 434 by decide) f94 fl_X12_82 rfl ?_
            refine r_aload_n rfl dX12_advances_219 rfl ?_
            refine r_getv 6 rfl dX12_advances_220 (show 2 ≤ 420 ∧ 420 < 434 by decide) f94 fl_X12_69 rfl ?_
            refine r_isub rfl dX12_advances_223 ?_
            refine r_iconst (v := 1) rfl dX12_advances_224 (by decide) ?_
            refine r_icmp_le (tgt := 233) rfl rfl dX12_advances_225 (fun c106 => ?_) (fun c106 => ?_)
            · refine r_iconst (v := 4) rfl dX12_advances_233 (by decide) ?_
              refine r_putv 5 (fs' := [.int th, .long tr, .ref 421, .int (nI n), .int (nI (mnup g n (n - q) q)), .int 4, .int (nI q), .int (mnuv g n (n - q) q 0), .int fa, .int cl, .int md, .int ss, .int wg, .ref 422, .ref 423, .ref 424, .ref 425, .ref 426, .ref 427, .ref 428, .ref 429, .ref 430, .ref 431, .ref 432, .ref 433]) rfl dX12_advances_234 (show 2 ≤ 420 ∧ 420 < 434 by decide) f94 (fp_X12_76 rfl _) (Nat.le_of_ble_eq_true rfl) rfl (fun h107 eh108 => ?_)
              have f109 : h107 420 = .inr (12, [.int th, .long tr, .ref 421, .int (nI n), .int (nI (mnup g n (n - q) q)), .int 4, .int (nI q), .int (mnuv g n (n - q) q 0), .int fa, .int cl, .int md, .int ss, .int wg, .ref 422, .ref 423, .ref 424, .ref 425, .ref 426, .ref 427, .ref 428, .ref 429, .ref 430, .ref 431, .ref 432, .ref 433]) := by rw [eh108]; exact va_up_self _ _ _
              have f110 : h107 421 = .inl (0, 300, .inl g) := by rw [eh108, va_up_ne _ _ (fun q => by rw [q, f94] at f95; cases f95)]; exact f95
              refine r_goto (pc' := 277) rfl dX12_advances_237 ?_
              subst e62
              subst eh108
              subst eh93
              subst eh89
              subst eh56
              subst eh52
              exact r_ret dX12_advances_277 (rt_v rfl) ⟨rfl, by simp only [maN, maK, maV, maS, ← hq, if_pos c63, if_pos c66, if_neg c69, if_neg c96, if_neg (not_not_intro c101), if_pos c106, va_up_up], rfl⟩
            · refine r_bipush (v := 7) rfl dX12_advances_228 (by decide) ?_
              refine r_goto (pc' := 234) rfl dX12_advances_230 ?_
              refine r_putv 5 (fs' := [.int th, .long tr, .ref 421, .int (nI n), .int (nI (mnup g n (n - q) q)), .int 7, .int (nI q), .int (mnuv g n (n - q) q 0), .int fa, .int cl, .int md, .int ss, .int wg, .ref 422, .ref 423, .ref 424, .ref 425, .ref 426, .ref 427, .ref 428, .ref 429, .ref 430, .ref 431, .ref 432, .ref 433]) rfl dX12_advances_234 (show 2 ≤ 420 ∧ 420 < 434 by decide) f94 (fp_X12_76 rfl _) (Nat.le_of_ble_eq_true rfl) rfl (fun h111 eh112 => ?_)
              have f113 : h111 420 = .inr (12, [.int th, .long tr, .ref 421, .int (nI n), .int (nI (mnup g n (n - q) q)), .int 7, .int (nI q), .int (mnuv g n (n - q) q 0), .int fa, .int cl, .int md, .int ss, .int wg, .ref 422, .ref 423, .ref 424, .ref 425, .ref 426, .ref 427, .ref 428, .ref 429, .ref 430, .ref 431, .ref 432, .ref 433]) := by rw [eh112]; exact va_up_self _ _ _
              have f114 : h111 421 = .inl (0, 300, .inl g) := by rw [eh112, va_up_ne _ _ (fun q => by rw [q, f94] at f95; cases f95)]; exact f95
              refine r_goto (pc' := 277) rfl dX12_advances_237 ?_
              subst e62
              subst eh112
              subst eh93
              subst eh89
              subst eh56
              subst eh52
              exact r_ret dX12_advances_277 (rt_v rfl) ⟨rfl, by simp only [maN, maK, maV, maS, ← hq, if_pos c63, if_pos c66, if_neg c69, if_neg c96, if_neg (not_not_intro c101), if_neg c106, va_up_up], rfl⟩
    · have hqn : q < n := Nat.not_le.mp (fun z => by rw [e62] at c63; unfold mbA at c63; rw [if_pos z] at c63; exact absurd c63 (by decide))
      refine s_adv_word hn (n - q) q (by omega) h55 f57 f58 (fun h115 eh116 => ?_)
      have f117 : h115 420 = .inr (12, [.int th, .long tr, .ref 421, .int (nI n), .int (nI (mwdp g n (n - q) q)), .int tk, .int (nI q), .int va, .int fa, .int cl, .int md, .int ss, .int wg, .ref 422, .ref 423, .ref 424, .ref 425, .ref 426, .ref 427, .ref 428, .ref 429, .ref 430, .ref 431, .ref 432, .ref 433]) := by rw [eh116]; exact va_up_self _ _ _
      have f118 : h115 421 = .inl (0, 300, .inl g) := by rw [eh116, va_up_ne _ _ (fun q => by rw [q, f57] at f58; cases f58)]; exact f58
      refine r_aload_n rfl dX12_advances_97 rfl ?_
      refine r_aload_n rfl dX12_advances_98 rfl ?_
      refine r_getv 4 rfl dX12_advances_99 (show 2 ≤ 420 ∧ 420 < 434 by decide) f117 fl_X12_82 rfl ?_
      refine r_aload_n rfl dX12_advances_102 rfl ?_
      refine r_getv 6 rfl dX12_advances_103 (show 2 ≤ 420 ∧ 420 < 434 by decide) f117 fl_X12_69 rfl ?_
      refine r_isub rfl dX12_advances_106 ?_
      refine cl_X12_85 rfl rfl dX12_advances_107 (show 2 ≤ 420 ∧ 420 < 434 by decide).1 (show 2 ≤ 420 ∧ 420 < 434 by decide).2 f117 (Nat.le_of_ble_eq_true rfl) (s_X12_word hn hqn f117 f118) ?_
      rintro _ h119 _ ⟨rfl, eh120, rfl⟩
      have f121 : h119 420 = .inr (12, [.int th, .long tr, .ref 421, .int (nI n), .int (nI (mwdp g n (n - q) q)), .int (mwK g n q ((nI (mwdp g n (n - q) q)) - (nI q)) va), .int (nI q), .int (mwV g n q ((nI (mwdp g n (n - q) q)) - (nI q)) va), .int fa, .int cl, .int md, .int ss, .int wg, .ref 422, .ref 423, .ref 424, .ref 425, .ref 426, .ref 427, .ref 428, .ref 429, .ref 430, .ref 431, .ref 432, .ref 433]) := by rw [eh120]; exact va_up_self _ _ _
      have f122 : h119 421 = .inl (0, 300, .inl g) := by rw [eh120, va_up_ne _ _ (fun q => by rw [q, f117] at f118; cases f118)]; exact f118
      refine r_goto (pc' := 277) rfl dX12_advances_110 ?_
      subst e62
      subst eh120
      subst eh116
      subst eh56
      subst eh52
      exact r_ret dX12_advances_277 (rt_v rfl) ⟨rfl, by simp only [maN, maK, maV, maS, ← hq, if_pos c63, if_neg c66, va_up_up], rfl⟩
  · refine r_aload_n rfl dX12_advances_47 rfl ?_
    refine r_iconst (v := 0) rfl dX12_advances_48 (by decide) ?_
    refine r_putv 5 (fs' := [.int th, .long tr, .ref 421, .int (nI n), .int (nI q), .int 0, .int (nI q), .int va, .int fa, .int cl, .int md, .int ss, .int wg, .ref 422, .ref 423, .ref 424, .ref 425, .ref 426, .ref 427, .ref 428, .ref 429, .ref 430, .ref 431, .ref 432, .ref 433]) rfl dX12_advances_49 (show 2 ≤ 420 ∧ 420 < 434 by decide) f57 (fp_X12_76 rfl _) (Nat.le_of_ble_eq_true rfl) rfl (fun h123 eh124 => ?_)
    have f125 : h123 420 = .inr (12, [.int th, .long tr, .ref 421, .int (nI n), .int (nI q), .int 0, .int (nI q), .int va, .int fa, .int cl, .int md, .int ss, .int wg, .ref 422, .ref 423, .ref 424, .ref 425, .ref 426, .ref 427, .ref 428, .ref 429, .ref 430, .ref 431, .ref 432, .ref 433]) := by rw [eh124]; exact va_up_self _ _ _
    have f126 : h123 421 = .inl (0, 300, .inl g) := by rw [eh124, va_up_ne _ _ (fun q => by rw [q, f57] at f58; cases f58)]; exact f58
    refine r_goto (pc' := 277) rfl dX12_advances_52 ?_
    subst e62
    subst eh124
    subst eh56
    subst eh52
    exact r_ret dX12_advances_277 (rt_v rfl) ⟨rfl, by simp only [maN, maK, maV, maS, ← hq, if_neg c63, va_up_up], rfl⟩
