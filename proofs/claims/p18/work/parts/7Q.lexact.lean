section EL
variable {xs : Nat → Int32} {L d : Nat} {M : ev_M} {h h0 : ev_H} {pc pc' : Nat} {ls : ev_L} {st : List Value} {Q : ev_Q} {Mod : List Nat}
theorem e_last {a n jn : Nat} {j : Int32} {x : Int64} {f : Nat → Int64} (hp : pc + 1 = pc') (hd : decode M.2.1 pc = .ok (.lastore, 1)) (ha : 2 ≤ a ∧ a < 434) (hS : SH h) (hF : KM Mod h0 h) (hm : a ∈ Mod) (hh : h a = .inl (1, n, .inr (.inl f))) (hj : vp_in j n) (hjn : j.toNatClampNeg = jn) (k : ∀ h', SH h' → KM Mod h0 h' → KM [a] h h' → h' a = .inl (1, n, .inr (.inl (vp_updL f jn x))) → EV xs L d 0 0 M 434 h' pc' ls st Q) : EV xs L d 0 0 M 434 h pc ls (.long x :: .int j :: .ref a :: st) Q :=
  r_last hp hd ha.1 ha.2 hh hj hjn (k _ (hS.up (by rw [hh]; exact ⟨_, rfl⟩) trivial) (KM_up hF hm) (KM_up (KM_rf _) (List.mem_singleton.mpr rfl)) (va_up_self _ _ _))
end EL
abbrev cL (n : Nat) (A : Nat → Int64) : va_E := .inl (1, n, .inr (.inl A))
theorem ul_s (f : Nat → Int64) (i : Nat) (x : Int64) : vp_updL f i x i = x := if_pos rfl
theorem ul_n {f : Nat → Int64} {i j : Nat} {x : Int64} (h : j ≠ i) : vp_updL f i x j = f j := if_neg h
/-- whether a CLAUSE is so in a world -/
def soM (a b w : Int32) : Int32 := if a &&& w = 0 then (if b &&& (w ^^^ (-1)) = 0 then 0 else 1) else 1
def soB (a b : Int32) (w : Nat) : Bool := decide (soM a b (nI w) = 1)
/-- the long with bits P 0 .. P (n - 1) -/
def oP (P : Nat → Bool) : Nat → Int64
  | 0 => 0
  | n + 1 => oP P n ||| (if P n = true then 1 <<< ((nI n : Int32).toInt64 &&& 63) else 0)
theorem oP_tb (P : Nat → Bool) : ∀ (n : Nat), n ≤ 64 → ∀ j, j < 64 → tb (oP P n) j = (decide (j < n) && P j)
  | 0, _, j, _ => by rw [oP, tb_0]; simp
  | n + 1, hn, j, hj => by
    rw [oP, tb_or, oP_tb P n (by omega) j hj]
    by_cases hp : P n = true
    · rw [if_pos hp, tb_b1 (by omega) hj]
      by_cases e : j = n
      · subst e; simp [hp]
      · by_cases e2 : j < n
        · simp [e2, show j < n + 1 by omega, e]
        · simp [e2, show ¬ j < n + 1 by omega, e]
    · rw [if_neg hp, tb_0, Bool.or_false]
      by_cases e : j = n
      · subst e; simp [hp]
      · by_cases e2 : j < n
        · simp [e2, show j < n + 1 by omega]
        · simp [e2, show ¬ j < n + 1 by omega]
/-- part p of a set of worlds -/
def wO (P : Nat → Bool) (p : Nat) : Int64 := oP (fun j => P (64 * p + j)) 64
theorem wO_tb (P : Nat → Bool) (p : Nat) {j : Nat} (hj : j < 64) : tb (wO P p) j = P (64 * p + j) := by
  unfold wO
  rw [oP_tb _ 64 (by omega) j hj, show decide (j < 64) = true from decide_eq_true hj, Bool.true_and]
theorem wO_w (P : Nat → Bool) (w : Nat) : tb (wO P (w / 64)) (w % 64) = P w := by
  rw [wO_tb P (w / 64) (by omega), show 64 * (w / 64) + w % 64 = w by omega]
theorem wO_ext {P Q : Nat → Bool} {p : Nat} (h : ∀ j, j < 64 → P (64 * p + j) = Q (64 * p + j)) : wO P p = wO Q p := tb_ext (fun j hj => by rw [wO_tb P p hj, wO_tb Q p hj, h j hj])
/-- k parts set to 0 -/
def hzR (H : Nat → Int64) (i k : Nat) : Nat → Int64 := fun q => if 4 * i ≤ q ∧ q < 4 * i + k then 0 else H q
theorem hzR_0 (H : Nat → Int64) (i : Nat) : hzR H i 0 = H := funext (fun q => if_neg (by omega))
theorem hzR_s (H : Nat → Int64) (i k : Nat) : vp_updL (hzR H i k) (4 * i + k) 0 = hzR H i (k + 1) := funext (fun q => by
  by_cases e : q = 4 * i + k
  · subst e; rw [ul_s, hzR, if_pos (by omega)]
  · rw [ul_n e, hzR, hzR]
    by_cases c : 4 * i ≤ q ∧ q < 4 * i + k
    · rw [if_pos c, if_pos (by omega)]
    · rw [if_neg c, if_neg (by omega)])
/-- worlds 0 .. w - 1 put in -/
def hwR (H : Nat → Int64) (i : Nat) (P : Nat → Bool) (w : Nat) : Nat → Int64 := fun q => if 4 * i ≤ q ∧ q < 4 * i + 4 then oP (fun j => P (64 * (q - 4 * i) + j)) (min 64 (w - 64 * (q - 4 * i))) else H q
theorem hwR_0 (H : Nat → Int64) (i : Nat) (P : Nat → Bool) : hzR H i 4 = hwR H i P 0 := funext (fun q => by
  unfold hzR hwR
  by_cases c : 4 * i ≤ q ∧ q < 4 * i + 4
  · rw [if_pos c, if_pos c, show min 64 (0 - 64 * (q - 4 * i)) = 0 by omega]; rfl
  · rw [if_neg c, if_neg c])
theorem hwR_s (H : Nat → Int64) (i : Nat) (P : Nat → Bool) {w : Nat} (hw : w < 256) : vp_updL (hwR H i P w) (4 * i + w / 64) (hwR H i P w (4 * i + w / 64) ||| (if P w = true then 1 <<< ((nI (w % 64) : Int32).toInt64 &&& 63) else 0)) = hwR H i P (w + 1) := funext (fun q => by
  by_cases e : q = 4 * i + w / 64
  · subst e
    rw [ul_s, hwR, hwR, if_pos (show 4 * i ≤ 4 * i + w / 64 ∧ 4 * i + w / 64 < 4 * i + 4 by omega), if_pos (show 4 * i ≤ 4 * i + w / 64 ∧ 4 * i + w / 64 < 4 * i + 4 by omega), show 4 * i + w / 64 - 4 * i = w / 64 by omega, show min 64 (w - 64 * (w / 64)) = w % 64 by omega, show min 64 (w + 1 - 64 * (w / 64)) = w % 64 + 1 by omega, oP, show 64 * (w / 64) + w % 64 = w by omega]
  · rw [ul_n e, hwR, hwR]
    by_cases c : 4 * i ≤ q ∧ q < 4 * i + 4
    · rw [if_pos c, if_pos c, show min 64 (w - 64 * (q - 4 * i)) = min 64 (w + 1 - 64 * (q - 4 * i)) by omega]
    · rw [if_neg c, if_neg c])
theorem hwR_lo {H : Nat → Int64} {i : Nat} {P : Nat → Bool} {w q : Nat} (h : ¬ (4 * i ≤ q ∧ q < 4 * i + 4)) : hwR H i P w q = H q := if_neg h
theorem hwR_in {H : Nat → Int64} {i : Nat} {P : Nat → Bool} {p : Nat} (h : p < 4) : hwR H i P 256 (4 * i + p) = wO P p := by
  rw [hwR, if_pos (by omega), show 4 * i + p - 4 * i = p by omega, show min 64 (256 - 64 * p) = 64 by omega]; rfl
set_option maxRecDepth 20000 in
set_option maxHeartbeats 1000000 in
theorem z_X12_isSo {xs : Nat → Int32} {L d : Nat} {h : ev_H} {x y z : Int32} (hS : SH h)  : EV xs L (d + 0) 0 0 M_X12_isSo 434 h 0 [some (.int x), some (.int y), some (.int z)] [] (fun sz' h' r => sz' = 434 ∧ h' = h ∧ r = [.int (soM x y z)]) := by
  refine r_iload_n rfl dX12_isSo_0 rfl ?_
  refine r_iload_n rfl dX12_isSo_1 rfl ?_
  refine r_iand rfl dX12_isSo_2 ?_
  refine r_if_ne (tgt := 14) rfl rfl dX12_isSo_3 (fun c51 => ?_) (fun c51 => ?_)
  · refine r_iconst (v := 1) rfl dX12_isSo_14 (by decide) ?_
    refine r_goto (pc' := 19) rfl dX12_isSo_15 ?_
    exact r_ret dX12_isSo_19 (rt_z rfl (Or.inr rfl)) ⟨rfl, rfl, by rw [soM, if_neg c51]⟩
  · refine r_iload_n rfl dX12_isSo_6 rfl ?_
    refine r_iload_n rfl dX12_isSo_7 rfl ?_
    refine r_iconst (v := (-1)) rfl dX12_isSo_8 (by decide) ?_
    refine r_ixor rfl dX12_isSo_9 ?_
    refine r_iand rfl dX12_isSo_10 ?_
    refine r_if_eq (tgt := 18) rfl rfl dX12_isSo_11 (fun c52 => ?_) (fun c52 => ?_)
    · refine r_iconst (v := 0) rfl dX12_isSo_18 (by decide) ?_
      exact r_ret dX12_isSo_19 (rt_z rfl (Or.inl rfl)) ⟨rfl, rfl, by rw [soM, if_pos c51, if_pos c52]⟩
    · refine r_iconst (v := 1) rfl dX12_isSo_14 (by decide) ?_
      refine r_goto (pc' := 19) rfl dX12_isSo_15 ?_
      exact r_ret dX12_isSo_19 (rt_z rfl (Or.inr rfl)) ⟨rfl, rfl, by rw [soM, if_pos c51, if_neg c52]⟩
def hsM (x : Int64) (w : Nat) : Int32 := if tb x (w % 64) = true then 1 else 0
set_option maxRecDepth 20000 in
set_option maxHeartbeats 1000000 in
theorem z_X12_has {xs : Nat → Int32} {L d : Nat} {h : ev_H} {a n q w : Nat} {A : Nat → Int64} (hS : SH h) (hb : 2 ≤ a ∧ a < 434) (ha : h a = cL n A) (hn : n ≤ 480) (hw : w < 256) (hq : q + w / 64 < n) : EV xs L (d + 0) 0 0 M_X12_has 434 h 0 [some (.ref a), some (.int (nI q)), some (.int (nI w))] [] (fun sz' h' r => sz' = 434 ∧ h' = h ∧ r = [.int (hsM (A (q + w / 64)) w)]) := by
  refine r_aload_n rfl dX12_has_0 rfl ?_
  refine r_iload_n rfl dX12_has_1 rfl ?_
  refine r_iload_n rfl dX12_has_2 rfl ?_
  refine r_bipush (v := 6) rfl dX12_has_3 (by decide) ?_
  refine r_ishr rfl dX12_has_5 ?_
  refine r_eqi (y := nI (w / 64)) (show (nI w) >>> (6 &&& 31) = nI (w / 64) from pk_shrN (n := w) (by omega) ((6 : Int32) &&& 31) 6 (by decide)) ?_
  refine r_iadd rfl dX12_has_6 ?_
  refine r_eqi (y := nI (q + (w / 64))) (show (nI q) + (nI (w / 64)) = nI (q + (w / 64)) from nI_add q (w / 64)) ?_
  refine r_laldv (jn := q + (w / 64)) (v := A (q + (w / 64))) rfl dX12_has_7 (show 2 ≤ a ∧ a < 434 from hb) ha (vp_in_nI (n := q + (w / 64)) (by omega) (by omega)) (nI_clamp (n := q + (w / 64)) (by omega)) rfl ?_
  refine r_iload_n rfl dX12_has_8 rfl ?_
  refine r_bipush (v := 63) rfl dX12_has_9 (by decide) ?_
  refine r_iand rfl dX12_has_11 ?_
  refine r_eqi (y := nI (w % 64)) (show (nI w) &&& 63 = nI (w % 64) from pk_andN (n := w) (by omega) (m := 63) 6 (by decide)) ?_
  refine r_lshr rfl dX12_has_12 ?_
  refine r_lconst (v := 1) rfl dX12_has_13 (by decide) ?_
  refine r_land rfl dX12_has_14 ?_
  refine r_lconst (v := 1) rfl dX12_has_15 (by decide) ?_
  refine r_lcmp rfl dX12_has_16 ?_
  refine r_if_ne (tgt := 24) rfl rfl dX12_has_17 (fun c51 => ?_) (fun c51 => ?_)
  · refine r_iconst (v := 0) rfl dX12_has_24 (by decide) ?_
    exact r_ret dX12_has_25 (rt_z rfl (Or.inl rfl)) ⟨rfl, rfl, by rw [hsM, if_neg (fun z => c51 (lgc0.mpr ((bit_shr1 (n := w % 64) (by omega)).mpr z)))]⟩
  · refine r_iconst (v := 1) rfl dX12_has_20 (by decide) ?_
    refine r_goto (pc' := 25) rfl dX12_has_21 ?_
    exact r_ret dX12_has_25 (rt_z rfl (Or.inr rfl)) ⟨rfl, rfl, by rw [hsM, if_pos ((bit_shr1 (n := w % 64) (by omega)).mp (lgc0.mp c51))]⟩
