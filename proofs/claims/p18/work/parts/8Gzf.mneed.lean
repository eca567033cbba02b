theorem bt1 {S k : Nat} (hS : S < 65536) (hk : k < 16) : (nI S >>> (nI k &&& 31)) &&& 1 = nI (S.testBit k).toNat := by
  have hd : S / 2 ^ k ≤ S := Nat.div_le_self _ _
  rw [pk_shrN (n := S) (by omega) (nI k &&& 31) k (sm16 ⟨k, hk⟩), Nat.toNat_testBit]
  exact pk_andN (n := S / 2 ^ k) (by omega) (m := 1) 1 (by decide)
theorem bt_iff {S k : Nat} (hS : S < 65536) (hk : k < 16) : (nI S >>> (nI k &&& 31)) &&& 1 = 1 ↔ S.testBit k = true := by
  rw [bt1 hS hk]
  cases S.testBit k
  · decide
  · decide
/-- what all CLAUSES of a set hold, by the reference's rows -/
def alW (R : Nat → Int64) (S p : Nat) : Nat → Int64
  | 0 => -1
  | n + 1 => alW R S p n &&& (if S.testBit n = true then R ((4 * n) + p) else -1)
theorem alW_s (R : Nat → Int64) (S p n : Nat) : alW R S p (n + 1) = alW R S p n &&& (if S.testBit n = true then R ((4 * n) + p) else -1) := rfl
theorem alW_wO {R : Nat → Int64} {S p c : Nat} {G : Nat → Int32} (hp : p < 4) (hR : ∀ i, i < c → ∀ p, p < 4 → R (4 * i + p) = wO (hdB G i) p) : ∀ n, n ≤ c → alW R S p n = wO (alB (hdB G) S n) p
  | 0, _ => (show wO (alB (hdB G) S 0) p = -1 from wO_t p).symm
  | n + 1, hn => by
    rw [alW_s, alW_wO hp hR n (by omega)]
    refine tb_ext (fun j hj => ?_)
    rw [tb_and, wO_tb _ p hj, wO_tb _ p hj]
    show _ = (alB (hdB G) S n (64 * p + j) && (!S.testBit n || hdB G n (64 * p + j)))
    cases e : S.testBit n
    · rw [if_neg (by decide), tb_m1 ⟨j, hj⟩] <;> rfl
    · rw [if_pos rfl, hR n (by omega) p hp, wO_tb _ p hj] <;> rfl
def isC (R : Nat → Int64) (S c : Nat) : Nat → Int32
  | 0 => 1
  | p + 1 => if isC R S c p = 0 then 0 else if alW R S p c = 0 then 1 else 0
theorem isC_s (R : Nat → Int64) (S c p : Nat) : isC R S c (p + 1) = if isC R S c p = 0 then 0 else if alW R S p c = 0 then 1 else 0 := rfl
theorem isC_01 (R : Nat → Int64) (S c : Nat) : ∀ p, isC R S c p = 0 ∨ isC R S c p = 1
  | 0 => Or.inr rfl
  | p + 1 => by
    rw [isC_s]
    by_cases h : isC R S c p = 0
    · rw [if_pos h]; exact Or.inl rfl
    · rw [if_neg h]
      by_cases h2 : alW R S p c = 0
      · rw [if_pos h2]; exact Or.inr rfl
      · rw [if_neg h2]; exact Or.inl rfl
theorem isC_z {R : Nat → Int64} {S c p : Nat} (h : isC R S c p = 0) : ∀ n, isC R S c (p + n) = 0
  | 0 => h
  | n + 1 => by
    show isC R S c ((p + n) + 1) = 0
    rw [isC_s, if_pos (isC_z h n)]
theorem isC_4 {R : Nat → Int64} {S c p : Nat} (h : isC R S c p = 0) (hp : p ≤ 4) : isC R S c 4 = 0 := by
  have q := isC_z h (4 - p)
  rw [show p + (4 - p) = 4 by omega] at q
  exact q
theorem isC_n (R : Nat → Int64) (S c : Nat) : ∀ n, (¬ isC R S c n = 0) ↔ ∀ p, p < n → alW R S p c = 0
  | 0 => ⟨fun _ p hp => absurd hp (by omega), fun _ => by show ¬ (1 : Int32) = 0; decide⟩
  | n + 1 => by
    have ih := isC_n R S c n
    rw [isC_s]
    by_cases h : isC R S c n = 0
    · rw [if_pos h]
      exact ⟨fun z => absurd rfl z, fun z => absurd h (ih.mpr (fun p hp => z p (by omega)))⟩
    · rw [if_neg h]
      have i2 := ih.mp h
      by_cases h2 : alW R S n c = 0
      · rw [if_pos h2]
        refine ⟨fun _ p hp => ?_, fun _ => by decide⟩
        by_cases e : p = n
        · rw [e]; exact h2
        · exact i2 p (by omega)
      · rw [if_neg h2]
        exact ⟨fun z => absurd rfl z, fun z => absurd (z n (by omega)) h2⟩
theorem isC_cl {R : Nat → Int64} {S c : Nat} {G : Nat → Int32} (hR : ∀ i, i < c → ∀ p, p < 4 → R (4 * i + p) = wO (hdB G i) p) : isC R S c 4 = if clB (hdB G) c S = true then 1 else 0 := by
  have e : (∀ p, p < 4 → alW R S p c = 0) ↔ clB (hdB G) c S = true := by
    rw [clB_p]
    exact ⟨fun z p hp => by rw [← alW_wO hp hR c (Nat.le_refl _)]; exact z p hp, fun z p hp => by rw [alW_wO hp hR c (Nat.le_refl _)]; exact z p hp⟩
  have h := (isC_n R S c 4).trans e
  by_cases q : clB (hdB G) c S = true
  · rw [if_pos q]
    exact (isC_01 R S c 4).resolve_left (h.mpr q)
  · rw [if_neg q]
    exact Decidable.byContradiction (fun z => q (h.mp z))
set_option maxRecDepth 20000 in
set_option maxHeartbeats 1000000 in
theorem z_ci_z {xs : Nat → Int32} {L d : Nat} {h : ev_H} {h0 : ev_H} {th : Int32} {tr : Int64} {ty nx tk pl va fa ss wg : Int32} {c m : Nat} {S : Nat} {R : Nat → Int64} {p : Nat} {is : Int32} {Q : ev_Q} {k : Nat} (hS : SH h) (hc : c ≤ 16) (hm : m ≤ 24) (hS6 : S < 65536) (hp : p < 4) (kx : ∀ h' : ev_H, SH h' → KM [] h0 h' → h' 420 = .inr (12, [.int th, .long tr, .ref 421, .int ty, .int nx, .int tk, .int pl, .int va, .int fa, .int (nI c), .int (nI m), .int ss, .int wg, .ref 422, .ref 423, .ref 424, .ref 425, .ref 426, .ref 427, .ref 428, .ref 429, .ref 430, .ref 431, .ref 432, .ref 433]) → h' 425 = .inl (1, 160, .inr (.inl R)) → EV xs L (d + 0) 0 0 M_X12_clash 434 h' 68 [some (.ref 420), some (.int (nI S)), some (.int is), some (.int (nI p)), some (.long (alW R S p (c))), none, some (.int (nI c))] [] Q) (hF : KM [] h0 h) (h5 : h 420 = .inr (12, [.int th, .long tr, .ref 421, .int ty, .int nx, .int tk, .int pl, .int va, .int fa, .int (nI c), .int (nI m), .int ss, .int wg, .ref 422, .ref 423, .ref 424, .ref 425, .ref 426, .ref 427, .ref 428, .ref 429, .ref 430, .ref 431, .ref 432, .ref 433])) (h25 : h 425 = .inl (1, 160, .inr (.inl R))) (hk : k = c) : EV xs L (d + 0) 0 0 M_X12_clash 434 h 21 [some (.ref 420), some (.int (nI S)), some (.int is), some (.int (nI p)), some (.long (alW R S p (k))), none, some (.int (nI k))] [] Q := by
  refine r_iload rfl dX12_clash_21 rfl ?_
  refine r_aload_n rfl dX12_clash_23 rfl ?_
  refine r_getv 9 rfl dX12_clash_24 (show 2 ≤ 420 ∧ 420 < 434 by decide) h5 fl_X12_112 rfl ?_
  refine r_icmp_ge (tgt := 68) rfl rfl dX12_clash_27 (fun _ => ?_) (fun zc => absurd (show nI (c) ≤ nI k from nI_le (a := c) (b := k) (by omega) (by omega)) zc)
  subst hk
  exact kx h hS hF h5 h25
set_option maxRecDepth 20000 in
set_option maxHeartbeats 1000000 in
theorem z_ci_s {xs : Nat → Int32} {L d : Nat} {h : ev_H} {h0 : ev_H} {th : Int32} {tr : Int64} {ty nx tk pl va fa ss wg : Int32} {c m : Nat} {S : Nat} {R : Nat → Int64} {p : Nat} {is : Int32} {Q : ev_Q} {k : Nat} (hS : SH h) (hc : c ≤ 16) (hm : m ≤ 24) (hS6 : S < 65536) (hp : p < 4) (kx : ∀ h' : ev_H, SH h' → KM [] h0 h' → h' 420 = .inr (12, [.int th, .long tr, .ref 421, .int ty, .int nx, .int tk, .int pl, .int va, .int fa, .int (nI c), .int (nI m), .int ss, .int wg, .ref 422, .ref 423, .ref 424, .ref 425, .ref 426, .ref 427, .ref 428, .ref 429, .ref 430, .ref 431, .ref 432, .ref 433]) → h' 425 = .inl (1, 160, .inr (.inl R)) → EV xs L (d + 0) 0 0 M_X12_clash 434 h' 68 [some (.ref 420), some (.int (nI S)), some (.int is), some (.int (nI p)), some (.long (alW R S p (c))), none, some (.int (nI c))] [] Q) (hF : KM [] h0 h) (h5 : h 420 = .inr (12, [.int th, .long tr, .ref 421, .int ty, .int nx, .int tk, .int pl, .int va, .int fa, .int (nI c), .int (nI m), .int ss, .int wg, .ref 422, .ref 423, .ref 424, .ref 425, .ref 426, .ref 427, .ref 428, .ref 429, .ref 430, .ref 431, .ref 432, .ref 433])) (h25 : h 425 = .inl (1, 160, .inr (.inl R))) (hk : k < c) (ih : ∀ (h' : ev_H), SH h' → KM [] h0 h' → h' 420 = .inr (12, [.int th, .long tr, .ref 421, .int ty, .int nx, .int tk, .int pl, .int va, .int fa, .int (nI c), .int (nI m), .int ss, .int wg, .ref 422, .ref 423, .ref 424, .ref 425, .ref 426, .ref 427, .ref 428, .ref 429, .ref 430, .ref 431, .ref 432, .ref 433]) → h' 425 = .inl (1, 160, .inr (.inl R)) → EV xs L (d + 0) 0 0 M_X12_clash 434 h' 21 [some (.ref 420), some (.int (nI S)), some (.int is), some (.int (nI p)), some (.long (alW R S p (k + 1))), none, some (.int (nI (k + 1)))] [] Q) : EV xs L (d + 0) 0 0 M_X12_clash 434 h 21 [some (.ref 420), some (.int (nI S)), some (.int is), some (.int (nI p)), some (.long (alW R S p (k))), none, some (.int (nI k))] [] Q := by
  refine r_iload rfl dX12_clash_21 rfl ?_
  refine r_aload_n rfl dX12_clash_23 rfl ?_
  refine r_getv 9 rfl dX12_clash_24 (show 2 ≤ 420 ∧ 420 < 434 by decide) h5 fl_X12_112 rfl ?_
  refine r_icmp_ge (tgt := 68) rfl rfl dX12_clash_27 (fun zc => absurd zc (show ¬ nI (c) ≤ nI k from nI_ge (a := k) (b := c) (by omega) (by omega))) (fun _ => ?_)
  refine r_lload rfl dX12_clash_30 rfl ?_
  refine r_iload_n rfl dX12_clash_32 rfl ?_
  refine r_iload rfl dX12_clash_33 rfl ?_
  refine r_ishr rfl dX12_clash_35 ?_
  refine r_iconst (v := 1) rfl dX12_clash_36 (by decide) ?_
  refine r_iand rfl dX12_clash_37 ?_
  refine r_iconst (v := 1) rfl dX12_clash_38 (by decide) ?_
  refine r_icmp_ne (tgt := 56) rfl rfl dX12_clash_39 (fun c51 => ?_) (fun c51 => ?_)
  · refine r_ldc2 (v := (-1)) rfl dX12_clash_56 lc_X12_137 ?_
    refine r_land rfl dX12_clash_59 ?_
    refine r_topl (fun x52 e53 => ?_)
    refine r_lstore (ls' := [some (.ref 420), some (.int (nI S)), some (.int is), some (.int (nI p)), some (.long x52), none, some (.int (nI k))]) rfl dX12_clash_60 (Nat.le_of_ble_eq_true rfl) rfl ?_
    refine r_iinc (y := nI (k + 1)) (ls' := [some (.ref 420), some (.int (nI S)), some (.int is), some (.int (nI p)), some (.long x52), none, some (.int (nI (k + 1)))]) rfl dX12_clash_62 rfl (nI_1 k) (Nat.le_of_ble_eq_true rfl) rfl ?_
    refine r_goto (pc' := 21) rfl dX12_clash_65 ?_
    subst e53
    rw [alW_s, if_neg (fun z => c51 ((bt_iff hS6 (by omega)).mpr z))] at ih
    exact ih h hS hF h5 h25
  · refine r_aload_n rfl dX12_clash_42 rfl ?_
    refine r_getv 16 rfl dX12_clash_43 (show 2 ≤ 420 ∧ 420 < 434 by decide) h5 fl_X12_26 rfl ?_
    refine r_iconst (v := 4) rfl dX12_clash_46 (by decide) ?_
    refine r_iload rfl dX12_clash_47 rfl ?_
    refine r_imul rfl dX12_clash_49 ?_
    refine r_eqi (y := nI (4 * k)) (show 4 * (nI k) = nI (4 * k) from pk_mul 4 k) ?_
    refine r_iload_n rfl dX12_clash_50 rfl ?_
    refine r_iadd rfl dX12_clash_51 ?_
    refine r_eqi (y := nI ((4 * k) + p)) (show (nI (4 * k)) + (nI p) = nI ((4 * k) + p) from nI_add (4 * k) p) ?_
    refine r_laldv (jn := (4 * k) + p) (v := R ((4 * k) + p)) rfl dX12_clash_52 (show 2 ≤ 425 ∧ 425 < 434 by decide) h25 (vp_in_nI (n := (4 * k) + p) (by omega) (by decide)) (nI_clamp (n := (4 * k) + p) (by omega)) rfl ?_
    refine r_goto (pc' := 59) rfl dX12_clash_53 ?_
    refine r_land rfl dX12_clash_59 ?_
    refine r_topl (fun x54 e55 => ?_)
    refine r_lstore (ls' := [some (.ref 420), some (.int (nI S)), some (.int is), some (.int (nI p)), some (.long x54), none, some (.int (nI k))]) rfl dX12_clash_60 (Nat.le_of_ble_eq_true rfl) rfl ?_
    refine r_iinc (y := nI (k + 1)) (ls' := [some (.ref 420), some (.int (nI S)), some (.int is), some (.int (nI p)), some (.long x54), none, some (.int (nI (k + 1)))]) rfl dX12_clash_62 rfl (nI_1 k) (Nat.le_of_ble_eq_true rfl) rfl ?_
    refine r_goto (pc' := 21) rfl dX12_clash_65 ?_
    subst e55
    rw [alW_s, if_pos ((bt_iff hS6 (by omega)).mp c51)] at ih
    exact ih h hS hF h5 h25
theorem z_ci {xs : Nat → Int32} {L d : Nat} {h0 : ev_H} {th : Int32} {tr : Int64} {ty nx tk pl va fa ss wg : Int32} {c m : Nat} {S : Nat} {R : Nat → Int64} {p : Nat} {is : Int32} {Q : ev_Q} (hc : c ≤ 16) (hm : m ≤ 24) (hS6 : S < 65536) (hp : p < 4) (kx : ∀ h' : ev_H, SH h' → KM [] h0 h' → h' 420 = .inr (12, [.int th, .long tr, .ref 421, .int ty, .int nx, .int tk, .int pl, .int va, .int fa, .int (nI c), .int (nI m), .int ss, .int wg, .ref 422, .ref 423, .ref 424, .ref 425, .ref 426, .ref 427, .ref 428, .ref 429, .ref 430, .ref 431, .ref 432, .ref 433]) → h' 425 = .inl (1, 160, .inr (.inl R)) → EV xs L (d + 0) 0 0 M_X12_clash 434 h' 68 [some (.ref 420), some (.int (nI S)), some (.int is), some (.int (nI p)), some (.long (alW R S p (c))), none, some (.int (nI c))] [] Q) : ∀ (nn k : Nat) (h : ev_H), k + nn = c → SH h → KM [] h0 h → h 420 = .inr (12, [.int th, .long tr, .ref 421, .int ty, .int nx, .int tk, .int pl, .int va, .int fa, .int (nI c), .int (nI m), .int ss, .int wg, .ref 422, .ref 423, .ref 424, .ref 425, .ref 426, .ref 427, .ref 428, .ref 429, .ref 430, .ref 431, .ref 432, .ref 433]) → h 425 = .inl (1, 160, .inr (.inl R)) → EV xs L (d + 0) 0 0 M_X12_clash 434 h 21 [some (.ref 420), some (.int (nI S)), some (.int is), some (.int (nI p)), some (.long (alW R S p (k))), none, some (.int (nI k))] [] Q := by
  intro nn
  induction nn with
  | zero => intro k h hk hS hF h5 h25; exact z_ci_z hS hc hm hS6 hp kx hF h5 h25 (by omega)
  | succ nn ih => intro k h hk hS hF h5 h25; exact z_ci_s hS hc hm hS6 hp kx hF h5 h25 (by omega) (fun h' q0 q1 q2 q3 => ih (k + 1) h' (by omega) q0 q1 q2 q3)
set_option maxRecDepth 20000 in
set_option maxHeartbeats 1000000 in
theorem z_co_z {xs : Nat → Int32} {L d : Nat} {h : ev_H} {h0 : ev_H} {th : Int32} {tr : Int64} {ty nx tk pl va fa ss wg : Int32} {c m : Nat} {S : Nat} {R : Nat → Int64} {k : Nat} {u4 : Option Value} {u5 : Option Value} {u6 : Option Value} (hS : SH h) (hc : c ≤ 16) (hm : m ≤ 24) (hS6 : S < 65536) (hF : KM [] h0 h) (h5 : h 420 = .inr (12, [.int th, .long tr, .ref 421, .int ty, .int nx, .int tk, .int pl, .int va, .int fa, .int (nI c), .int (nI m), .int ss, .int wg, .ref 422, .ref 423, .ref 424, .ref 425, .ref 426, .ref 427, .ref 428, .ref 429, .ref 430, .ref 431, .ref 432, .ref 433])) (h25 : h 425 = .inl (1, 160, .inr (.inl R))) (hk : k = 4) : EV xs L (d + 0) 0 0 M_X12_clash 434 h 4 [some (.ref 420), some (.int (nI S)), some (.int (isC R S c (k))), some (.int (nI k)), u4, u5, u6] [] (fun sz' h' r => sz' = 434 ∧ SH h' ∧ KM [] h0 h' ∧ r = [.int (isC R S c 4)]) := by
  refine r_iload_n rfl dX12_clash_4 rfl ?_
  refine r_iconst (v := 4) rfl dX12_clash_5 (by decide) ?_
  refine r_icmp_ge (tgt := 87) rfl rfl dX12_clash_6 (fun _ => ?_) (fun zc => absurd (show nI (4) ≤ nI k from nI_le (a := 4) (b := k) (by omega) (by omega)) zc)
  refine r_iload_n rfl dX12_clash_87 rfl ?_
  subst hk
  exact r_ret dX12_clash_88 (rt_z rfl (isC_01 R S c 4)) ⟨rfl, hS, hF, rfl⟩
set_option maxRecDepth 20000 in
set_option maxHeartbeats 1000000 in
theorem z_co_s {xs : Nat → Int32} {L d : Nat} {h : ev_H} {h0 : ev_H} {th : Int32} {tr : Int64} {ty nx tk pl va fa ss wg : Int32} {c m : Nat} {S : Nat} {R : Nat → Int64} {k : Nat} {u4 : Option Value} {u5 : Option Value} {u6 : Option Value} (hS : SH h) (hc : c ≤ 16) (hm : m ≤ 24) (hS6 : S < 65536) (hF : KM [] h0 h) (h5 : h 420 = .inr (12, [.int th, .long tr, .ref 421, .int ty, .int nx, .int tk, .int pl, .int va, .int fa, .int (nI c), .int (nI m), .int ss, .int wg, .ref 422, .ref 423, .ref 424, .ref 425, .ref 426, .ref 427, .ref 428, .ref 429, .ref 430, .ref 431, .ref 432, .ref 433])) (h25 : h 425 = .inl (1, 160, .inr (.inl R))) (hk : k < 4) (ih : ∀ (h' : ev_H) (u4' : Option Value) (u5' : Option Value) (u6' : Option Value), SH h' → KM [] h0 h' → h' 420 = .inr (12, [.int th, .long tr, .ref 421, .int ty, .int nx, .int tk, .int pl, .int va, .int fa, .int (nI c), .int (nI m), .int ss, .int wg, .ref 422, .ref 423, .ref 424, .ref 425, .ref 426, .ref 427, .ref 428, .ref 429, .ref 430, .ref 431, .ref 432, .ref 433]) → h' 425 = .inl (1, 160, .inr (.inl R)) → EV xs L (d + 0) 0 0 M_X12_clash 434 h' 4 [some (.ref 420), some (.int (nI S)), some (.int (isC R S c (k + 1))), some (.int (nI (k + 1))), u4', u5', u6'] [] (fun sz' h' r => sz' = 434 ∧ SH h' ∧ KM [] h0 h' ∧ r = [.int (isC R S c 4)])) : EV xs L (d + 0) 0 0 M_X12_clash 434 h 4 [some (.ref 420), some (.int (nI S)), some (.int (isC R S c (k))), some (.int (nI k)), u4, u5, u6] [] (fun sz' h' r => sz' = 434 ∧ SH h' ∧ KM [] h0 h' ∧ r = [.int (isC R S c 4)]) := by
  refine r_iload_n rfl dX12_clash_4 rfl ?_
  refine r_iconst (v := 4) rfl dX12_clash_5 (by decide) ?_
  refine r_icmp_ge (tgt := 87) rfl rfl dX12_clash_6 (fun zc => absurd zc (show ¬ nI (4) ≤ nI k from nI_ge (a := k) (b := 4) (by omega) (by omega))) (fun _ => ?_)
  refine r_iload_n rfl dX12_clash_9 rfl ?_
  refine r_if_eq (tgt := 87) rfl rfl dX12_clash_10 (fun c51 => ?_) (fun c51 => ?_)
  · refine r_iload_n rfl dX12_clash_87 rfl ?_
    exact r_ret dX12_clash_88 (rt_z rfl (isC_01 R S c k)) ⟨rfl, hS, hF, by rw [isC_4 c51 (by omega), c51] <;> rfl⟩
  · refine r_ldc2 (v := (-1)) rfl dX12_clash_13 lc_X12_137 ?_
    refine r_lstore (ls' := [some (.ref 420), some (.int (nI S)), some (.int (isC R S c (k))), some (.int (nI k)), some (.long (-1)), none, u6]) rfl dX12_clash_16 (Nat.le_of_ble_eq_true rfl) rfl ?_
    refine r_iconst (v := 0) rfl dX12_clash_18 (by decide) ?_
    refine r_istore (ls' := [some (.ref 420), some (.int (nI S)), some (.int (isC R S c (k))), some (.int (nI k)), some (.long (-1)), none, some (.int 0)]) rfl dX12_clash_19 (Nat.le_of_ble_eq_true rfl) rfl ?_
    refine z_ci (p := k) (h0 := h) hc hm hS6 hk ?_ c 0 h (by omega) hS (KM_rf _) h5 h25
    intro h52 hS53 hF54 f55 f56
    have hF57 := KM_tr hF hF54
    refine r_lload rfl dX12_clash_68 rfl ?_
    refine r_lconst (v := 0) rfl dX12_clash_70 (by decide) ?_
    refine r_lcmp rfl dX12_clash_71 ?_
    refine r_if_ne (tgt := 79) rfl rfl dX12_clash_72 (fun c58 => ?_) (fun c58 => ?_)
    · refine r_iconst (v := 0) rfl dX12_clash_79 (by decide) ?_
      refine r_istore_n (ls' := [some (.ref 420), some (.int (nI S)), some (.int 0), some (.int (nI k)), some (.long (alW R S k (c))), none, some (.int (nI c))]) rfl dX12_clash_80 (Nat.le_of_ble_eq_true rfl) rfl ?_
      refine r_iinc (y := nI (k + 1)) (ls' := [some (.ref 420), some (.int (nI S)), some (.int 0), some (.int (nI (k + 1))), some (.long (alW R S k (c))), none, some (.int (nI c))]) rfl dX12_clash_81 rfl (nI_1 k) (Nat.le_of_ble_eq_true rfl) rfl ?_
      refine r_goto (pc' := 4) rfl dX12_clash_84 ?_
      rw [isC_s, if_neg c51, if_neg (fun z => c58 (lgc0.mpr z))] at ih
      exact ih h52 _ _ _ hS53 hF57 f55 f56
    · refine r_iconst (v := 1) rfl dX12_clash_75 (by decide) ?_
      refine r_goto (pc' := 80) rfl dX12_clash_76 ?_
      refine r_istore_n (ls' := [some (.ref 420), some (.int (nI S)), some (.int 1), some (.int (nI k)), some (.long (alW R S k (c))), none, some (.int (nI c))]) rfl dX12_clash_80 (Nat.le_of_ble_eq_true rfl) rfl ?_
      refine r_iinc (y := nI (k + 1)) (ls' := [some (.ref 420), some (.int (nI S)), some (.int 1), some (.int (nI (k + 1))), some (.long (alW R S k (c))), none, some (.int (nI c))]) rfl dX12_clash_81 rfl (nI_1 k) (Nat.le_of_ble_eq_true rfl) rfl ?_
      refine r_goto (pc' := 4) rfl dX12_clash_84 ?_
      rw [isC_s, if_neg c51, if_pos (lgc0.mp c58)] at ih
      exact ih h52 _ _ _ hS53 hF57 f55 f56
theorem z_co {xs : Nat → Int32} {L d : Nat} {h0 : ev_H} {th : Int32} {tr : Int64} {ty nx tk pl va fa ss wg : Int32} {c m : Nat} {S : Nat} {R : Nat → Int64} (hc : c ≤ 16) (hm : m ≤ 24) (hS6 : S < 65536) : ∀ (nn k : Nat) (h : ev_H) (u4 : Option Value) (u5 : Option Value) (u6 : Option Value), k + nn = 4 → SH h → KM [] h0 h → h 420 = .inr (12, [.int th, .long tr, .ref 421, .int ty, .int nx, .int tk, .int pl, .int va, .int fa, .int (nI c), .int (nI m), .int ss, .int wg, .ref 422, .ref 423, .ref 424, .ref 425, .ref 426, .ref 427, .ref 428, .ref 429, .ref 430, .ref 431, .ref 432, .ref 433]) → h 425 = .inl (1, 160, .inr (.inl R)) → EV xs L (d + 0) 0 0 M_X12_clash 434 h 4 [some (.ref 420), some (.int (nI S)), some (.int (isC R S c (k))), some (.int (nI k)), u4, u5, u6] [] (fun sz' h' r => sz' = 434 ∧ SH h' ∧ KM [] h0 h' ∧ r = [.int (isC R S c 4)]) := by
  intro nn
  induction nn with
  | zero => intro k h u4 u5 u6 hk hS hF h5 h25; exact z_co_z hS hc hm hS6 hF h5 h25 (by omega)
  | succ nn ih => intro k h u4 u5 u6 hk hS hF h5 h25; exact z_co_s hS hc hm hS6 hF h5 h25 (by omega) (fun h' u4 u5 u6 q0 q1 q2 q3 => ih (k + 1) h' u4 u5 u6 (by omega) q0 q1 q2 q3)
set_option maxRecDepth 20000 in
set_option maxHeartbeats 1000000 in
theorem z_clash0 {xs : Nat → Int32} {L d : Nat} {h : ev_H} {th : Int32} {tr : Int64} {ty nx tk pl va fa ss wg : Int32} {c m : Nat} {S : Nat} {R : Nat → Int64} (hS : SH h) (hc : c ≤ 16) (hm : m ≤ 24) (hS6 : S < 65536) (h5 : h 420 = .inr (12, [.int th, .long tr, .ref 421, .int ty, .int nx, .int tk, .int pl, .int va, .int fa, .int (nI c), .int (nI m), .int ss, .int wg, .ref 422, .ref 423, .ref 424, .ref 425, .ref 426, .ref 427, .ref 428, .ref 429, .ref 430, .ref 431, .ref 432, .ref 433])) (h25 : h 425 = cL 160 R) : EV xs L (d + 0) 0 0 M_X12_clash 434 h 0 [some (.ref 420), some (.int (nI S)), none, none, none, none, none] [] (fun sz' h' r => sz' = 434 ∧ SH h' ∧ KM [] h h' ∧ r = [.int (isC R S c 4)]) := by
  refine r_iconst (v := 1) rfl dX12_clash_0 (by decide) ?_
  refine r_istore_n (ls' := [some (.ref 420), some (.int (nI S)), some (.int 1), none, none, none, none]) rfl dX12_clash_1 (Nat.le_of_ble_eq_true rfl) rfl ?_
  refine r_iconst (v := 0) rfl dX12_clash_2 (by decide) ?_
  refine r_istore_n (ls' := [some (.ref 420), some (.int (nI S)), some (.int 1), some (.int 0), none, none, none]) rfl dX12_clash_3 (Nat.le_of_ble_eq_true rfl) rfl ?_
  exact z_co hc hm hS6 4 0 h _ _ _ rfl hS (KM_rf (Mod := []) h) h5 h25
theorem z_X12_clash {xs : Nat → Int32} {L d : Nat} {h : ev_H} {th : Int32} {tr : Int64} {ty nx tk pl va fa ss wg : Int32} {c m : Nat} {S : Nat} {R : Nat → Int64} {G : Nat → Int32} (hS : SH h) (hc : c ≤ 16) (hm : m ≤ 24) (hS6 : S < 65536) (h5 : h 420 = .inr (12, [.int th, .long tr, .ref 421, .int ty, .int nx, .int tk, .int pl, .int va, .int fa, .int (nI c), .int (nI m), .int ss, .int wg, .ref 422, .ref 423, .ref 424, .ref 425, .ref 426, .ref 427, .ref 428, .ref 429, .ref 430, .ref 431, .ref 432, .ref 433])) (h25 : h 425 = cL 160 R) (hR : ∀ i, i < c → ∀ p, p < 4 → R (4 * i + p) = wO (hdB G i) p) : EV xs L (d + 0) 0 0 M_X12_clash 434 h 0 [some (.ref 420), some (.int (nI S)), none, none, none, none, none] [] (fun sz' h' r => sz' = 434 ∧ h' = h ∧ r = [.int (if clB (hdB G) c S = true then 1 else 0)]) := by
  refine EV.post ?_ (z_clash0 hS hc hm hS6 h5 h25)
  rintro _ h' _ ⟨rfl, hs, hk, hr⟩
  exact ⟨rfl, funext (fun q => hk q (by simp)), by rw [← isC_cl hR]; exact hr⟩
set_option maxRecDepth 20000 in
set_option maxHeartbeats 1000000 in
theorem z_no_z {xs : Nat → Int32} {L d : Nat} {h : ev_H} {h0 : ev_H} {tr : Int64} {ty nx tk pl va fa ss wg x : Int32} {c m : Nat} {G : Nat → Int32} {R : Nat → Int64} {k : Nat} (hS : SH h) (hc : c ≤ 16) (hm : m ≤ 24) (hsh : sh1 c ≤ 65536) (hx : ¬ inR x 0 1 = 0) (hR : ∀ i, i < c → ∀ p, p < 4 → R (4 * i + p) = wO (hdB G i) p) (hF1 : clB (hdB G) c (2 ^ c - 1) = true) (hF : KM [420] h0 h) (h5 : h 420 = .inr (12, [.int 0, .long tr, .ref 421, .int ty, .int nx, .int tk, .int pl, .int va, .int fa, .int (nI c), .int (nI m), .int ss, .int wg, .ref 422, .ref 423, .ref 424, .ref 425, .ref 426, .ref 427, .ref 428, .ref 429, .ref 430, .ref 431, .ref 432, .ref 433])) (h25 : h 425 = .inl (1, 160, .inr (.inl R))) (hk : k = sh1 c) : EV xs L (d + 1) 0 0 M_X12_needed 434 h 36 [some (.ref 420), some (.int x), some (.int (ndB (hdB G) c (k))), some (.int (nI k))] [] (fun sz' h' r => sz' = 434 ∧ SH h' ∧ KM [420] h0 h' ∧ r = [.int (ndR (hdB G) c x)] ∧ h' 420 = c420 0 tr ty nx tk pl va fa (nI c) (nI m) ss wg) := by
  refine r_iload_n rfl dX12_needed_36 rfl ?_
  refine r_iconst (v := 1) rfl dX12_needed_37 (by decide) ?_
  refine r_aload_n rfl dX12_needed_38 rfl ?_
  refine r_getv 9 rfl dX12_needed_39 (show 2 ≤ 420 ∧ 420 < 434 by decide) h5 fl_X12_112 rfl ?_
  refine r_ishl rfl dX12_needed_42 ?_
  refine r_eqi (y := nI (sh1 c)) (show 1 <<< ((nI c) &&& 31) = nI (sh1 c) from sh1_e (c := c) (by omega)) ?_
  refine r_icmp_ge (tgt := 79) rfl rfl dX12_needed_43 (fun _ => ?_) (fun zc => absurd (show nI (sh1 c) ≤ nI k from nI_le (a := sh1 c) (b := k) (by omega) (by omega)) zc)
  refine r_iload_n rfl dX12_needed_79 rfl ?_
  refine r_bipush (v := (-9)) rfl dX12_needed_80 (by decide) ?_
  refine r_icmp_eq (tgt := 90) rfl rfl dX12_needed_82 (fun c51 => ?_) (fun c51 => ?_)
  · refine r_iload_n rfl dX12_needed_90 rfl ?_
    refine r_goto (pc' := 98) rfl dX12_needed_91 ?_
    have hk2 : k = 2 ^ c := hk
    subst hk2
    exact r_ret dX12_needed_98 (rt_i rfl) ⟨rfl, hS, hF, (by rw [ndR, if_neg hx, ndA, if_pos hF1, sOS, if_pos c51] <;> rfl), h5⟩
  · refine r_iload_n rfl dX12_needed_85 rfl ?_
    refine r_iconst (v := 1) rfl dX12_needed_86 (by decide) ?_
    refine r_icmp_ne (tgt := 94) rfl rfl dX12_needed_87 (fun c52 => ?_) (fun c52 => ?_)
    · refine r_iload_n rfl dX12_needed_94 rfl ?_
      refine cl_X12_177 rfl rfl dX12_needed_95 (Nat.le_of_ble_eq_true rfl) (z_X12_ones hS) ?_
      rintro _ h53 _ ⟨rfl, e54, rfl⟩
      replace e54 := e54.symm
      subst e54
      have hk2 : k = 2 ^ c := hk
      subst hk2
      exact r_ret dX12_needed_98 (rt_i rfl) ⟨rfl, hS, hF, (by rw [ndR, if_neg hx, ndA, if_pos hF1, sOS, if_neg c51, if_pos c52, nd_y hc (Nat.le_refl _) c51] <;> rfl), h5⟩
    · refine r_iload_n rfl dX12_needed_90 rfl ?_
      refine r_goto (pc' := 98) rfl dX12_needed_91 ?_
      have hk2 : k = 2 ^ c := hk
      subst hk2
      exact r_ret dX12_needed_98 (rt_i rfl) ⟨rfl, hS, hF, (by rw [ndR, if_neg hx, ndA, if_pos hF1, sOS, if_neg c51, if_neg (fun z => z c52)] <;> rfl), h5⟩
set_option maxRecDepth 20000 in
set_option maxHeartbeats 1000000 in
theorem z_no_s {xs : Nat → Int32} {L d : Nat} {h : ev_H} {h0 : ev_H} {tr : Int64} {ty nx tk pl va fa ss wg x : Int32} {c m : Nat} {G : Nat → Int32} {R : Nat → Int64} {k : Nat} (hS : SH h) (hc : c ≤ 16) (hm : m ≤ 24) (hsh : sh1 c ≤ 65536) (hx : ¬ inR x 0 1 = 0) (hR : ∀ i, i < c → ∀ p, p < 4 → R (4 * i + p) = wO (hdB G i) p) (hF1 : clB (hdB G) c (2 ^ c - 1) = true) (hF : KM [420] h0 h) (h5 : h 420 = .inr (12, [.int 0, .long tr, .ref 421, .int ty, .int nx, .int tk, .int pl, .int va, .int fa, .int (nI c), .int (nI m), .int ss, .int wg, .ref 422, .ref 423, .ref 424, .ref 425, .ref 426, .ref 427, .ref 428, .ref 429, .ref 430, .ref 431, .ref 432, .ref 433])) (h25 : h 425 = .inl (1, 160, .inr (.inl R))) (hk : k < sh1 c) (ih : ∀ (h' : ev_H), SH h' → KM [420] h0 h' → h' 420 = .inr (12, [.int 0, .long tr, .ref 421, .int ty, .int nx, .int tk, .int pl, .int va, .int fa, .int (nI c), .int (nI m), .int ss, .int wg, .ref 422, .ref 423, .ref 424, .ref 425, .ref 426, .ref 427, .ref 428, .ref 429, .ref 430, .ref 431, .ref 432, .ref 433]) → h' 425 = .inl (1, 160, .inr (.inl R)) → EV xs L (d + 1) 0 0 M_X12_needed 434 h' 36 [some (.ref 420), some (.int x), some (.int (ndB (hdB G) c (k + 1))), some (.int (nI (k + 1)))] [] (fun sz' h' r => sz' = 434 ∧ SH h' ∧ KM [420] h0 h' ∧ r = [.int (ndR (hdB G) c x)] ∧ h' 420 = c420 0 tr ty nx tk pl va fa (nI c) (nI m) ss wg)) : EV xs L (d + 1) 0 0 M_X12_needed 434 h 36 [some (.ref 420), some (.int x), some (.int (ndB (hdB G) c (k))), some (.int (nI k))] [] (fun sz' h' r => sz' = 434 ∧ SH h' ∧ KM [420] h0 h' ∧ r = [.int (ndR (hdB G) c x)] ∧ h' 420 = c420 0 tr ty nx tk pl va fa (nI c) (nI m) ss wg) := by
  refine r_iload_n rfl dX12_needed_36 rfl ?_
  refine r_iconst (v := 1) rfl dX12_needed_37 (by decide) ?_
  refine r_aload_n rfl dX12_needed_38 rfl ?_
  refine r_getv 9 rfl dX12_needed_39 (show 2 ≤ 420 ∧ 420 < 434 by decide) h5 fl_X12_112 rfl ?_
  refine r_ishl rfl dX12_needed_42 ?_
  refine r_eqi (y := nI (sh1 c)) (show 1 <<< ((nI c) &&& 31) = nI (sh1 c) from sh1_e (c := c) (by omega)) ?_
  refine r_icmp_ge (tgt := 79) rfl rfl dX12_needed_43 (fun zc => absurd zc (show ¬ nI (sh1 c) ≤ nI k from nI_ge (a := k) (b := sh1 c) (by omega) (by omega))) (fun _ => ?_)
  refine r_iload_n rfl dX12_needed_46 rfl ?_
  refine r_bipush (v := (-9)) rfl dX12_needed_47 (by decide) ?_
  refine r_icmp_eq (tgt := 63) rfl rfl dX12_needed_49 (fun c51 => ?_) (fun c51 => ?_)
  · refine r_aload_n rfl dX12_needed_63 rfl ?_
    refine r_iload_n rfl dX12_needed_64 rfl ?_
    refine cl_X12_180 rfl rfl dX12_needed_65 (show 2 ≤ 420 ∧ 420 < 434 by decide).1 (show 2 ≤ 420 ∧ 420 < 434 by decide).2 h5 (Nat.le_of_ble_eq_true rfl) (z_X12_clash (S := k) (G := G) hS hc hm (by omega) h5 h25 hR) ?_
    rintro _ h52 _ ⟨rfl, e53, rfl⟩
    replace e53 := e53.symm
    subst e53
    refine r_if_eq (tgt := 73) rfl rfl dX12_needed_68 (fun c54 => ?_) (fun c54 => ?_)
    · refine r_iinc (y := nI (k + 1)) (ls' := [some (.ref 420), some (.int x), some (.int (ndB (hdB G) c (k))), some (.int (nI (k + 1)))]) rfl dX12_needed_73 rfl (nI_1 k) (Nat.le_of_ble_eq_true rfl) rfl ?_
      refine r_goto (pc' := 36) rfl dX12_needed_76 ?_
      have ha : ¬ clB (hdB G) c k = true := fun z => by rw [if_pos z] at c54; exact absurd c54 (by decide)
      rw [ndB_s (hdB G) c k, ndS, if_pos c51, if_neg ha] at ih
      exact ih h hS hF h5 h25
    · refine r_iload_n rfl dX12_needed_71 rfl ?_
      refine r_istore_n (ls' := [some (.ref 420), some (.int x), some (.int (nI k)), some (.int (nI k))]) rfl dX12_needed_72 (Nat.le_of_ble_eq_true rfl) rfl ?_
      refine r_iinc (y := nI (k + 1)) (ls' := [some (.ref 420), some (.int x), some (.int (nI k)), some (.int (nI (k + 1)))]) rfl dX12_needed_73 rfl (nI_1 k) (Nat.le_of_ble_eq_true rfl) rfl ?_
      refine r_goto (pc' := 36) rfl dX12_needed_76 ?_
      have ha : clB (hdB G) c k = true := Decidable.byContradiction (fun z => c54 (by rw [if_neg z]))
      rw [ndB_s (hdB G) c k, ndS, if_pos c51, if_pos ha] at ih
      exact ih h hS hF h5 h25
  · refine r_iload_n rfl dX12_needed_52 rfl ?_
    refine cl_X12_177 rfl rfl dX12_needed_53 (Nat.le_of_ble_eq_true rfl) (z_X12_ones hS) ?_
    rintro _ h55 _ ⟨rfl, e56, rfl⟩
    replace e56 := e56.symm
    subst e56
    refine r_iload_n rfl dX12_needed_56 rfl ?_
    refine cl_X12_177 rfl rfl dX12_needed_57 (Nat.le_of_ble_eq_true rfl) (z_X12_ones hS) ?_
    rintro _ h57 _ ⟨rfl, e58, rfl⟩
    replace e58 := e58.symm
    subst e58
    refine r_icmp_ge (tgt := 73) rfl rfl dX12_needed_60 (fun c59 => ?_) (fun c59 => ?_)
    · refine r_iinc (y := nI (k + 1)) (ls' := [some (.ref 420), some (.int x), some (.int (ndB (hdB G) c (k))), some (.int (nI (k + 1)))]) rfl dX12_needed_73 rfl (nI_1 k) (Nat.le_of_ble_eq_true rfl) rfl ?_
      refine r_goto (pc' := 36) rfl dX12_needed_76 ?_
      rw [ndB_s (hdB G) c k, ndS, if_neg c51, if_pos c59] at ih
      exact ih h hS hF h5 h25
    · refine r_aload_n rfl dX12_needed_63 rfl ?_
      refine r_iload_n rfl dX12_needed_64 rfl ?_
      refine cl_X12_180 rfl rfl dX12_needed_65 (show 2 ≤ 420 ∧ 420 < 434 by decide).1 (show 2 ≤ 420 ∧ 420 < 434 by decide).2 h5 (Nat.le_of_ble_eq_true rfl) (z_X12_clash (S := k) (G := G) hS hc hm (by omega) h5 h25 hR) ?_
      rintro _ h60 _ ⟨rfl, e61, rfl⟩
      replace e61 := e61.symm
      subst e61
      refine r_if_eq (tgt := 73) rfl rfl dX12_needed_68 (fun c62 => ?_) (fun c62 => ?_)
      · refine r_iinc (y := nI (k + 1)) (ls' := [some (.ref 420), some (.int x), some (.int (ndB (hdB G) c (k))), some (.int (nI (k + 1)))]) rfl dX12_needed_73 rfl (nI_1 k) (Nat.le_of_ble_eq_true rfl) rfl ?_
        refine r_goto (pc' := 36) rfl dX12_needed_76 ?_
        have ha : ¬ clB (hdB G) c k = true := fun z => by rw [if_pos z] at c62; exact absurd c62 (by decide)
        rw [ndB_s (hdB G) c k, ndS, if_neg c51, if_neg c59, if_neg ha] at ih
        exact ih h hS hF h5 h25
      · refine r_iload_n rfl dX12_needed_71 rfl ?_
        refine r_istore_n (ls' := [some (.ref 420), some (.int x), some (.int (nI k)), some (.int (nI k))]) rfl dX12_needed_72 (Nat.le_of_ble_eq_true rfl) rfl ?_
        refine r_iinc (y := nI (k + 1)) (ls' := [some (.ref 420), some (.int x), some (.int (nI k)), some (.int (nI (k + 1)))]) rfl dX12_needed_73 rfl (nI_1 k) (Nat.le_of_ble_eq_true rfl) rfl ?_
        refine r_goto (pc' := 36) rfl dX12_needed_76 ?_
        have ha : clB (hdB G) c k = true := Decidable.byContradiction (fun z => c62 (by rw [if_neg z]))
        rw [ndB_s (hdB G) c k, ndS, if_neg c51, if_neg c59, if_pos ha] at ih
        exact ih h hS hF h5 h25
theorem z_no {xs : Nat → Int32} {L d : Nat} {h0 : ev_H} {tr : Int64} {ty nx tk pl va fa ss wg x : Int32} {c m : Nat} {G : Nat → Int32} {R : Nat → Int64} (hc : c ≤ 16) (hm : m ≤ 24) (hsh : sh1 c ≤ 65536) (hx : ¬ inR x 0 1 = 0) (hR : ∀ i, i < c → ∀ p, p < 4 → R (4 * i + p) = wO (hdB G i) p) (hF1 : clB (hdB G) c (2 ^ c - 1) = true) : ∀ (nn k : Nat) (h : ev_H), k + nn = sh1 c → SH h → KM [420] h0 h → h 420 = .inr (12, [.int 0, .long tr, .ref 421, .int ty, .int nx, .int tk, .int pl, .int va, .int fa, .int (nI c), .int (nI m), .int ss, .int wg, .ref 422, .ref 423, .ref 424, .ref 425, .ref 426, .ref 427, .ref 428, .ref 429, .ref 430, .ref 431, .ref 432, .ref 433]) → h 425 = .inl (1, 160, .inr (.inl R)) → EV xs L (d + 1) 0 0 M_X12_needed 434 h 36 [some (.ref 420), some (.int x), some (.int (ndB (hdB G) c (k))), some (.int (nI k))] [] (fun sz' h' r => sz' = 434 ∧ SH h' ∧ KM [420] h0 h' ∧ r = [.int (ndR (hdB G) c x)] ∧ h' 420 = c420 0 tr ty nx tk pl va fa (nI c) (nI m) ss wg) := by
  intro nn
  induction nn with
  | zero => intro k h hk hS hF h5 h25; exact z_no_z hS hc hm hsh hx hR hF1 hF h5 h25 (by omega)
  | succ nn ih => intro k h hk hS hF h5 h25; exact z_no_s hS hc hm hsh hx hR hF1 hF h5 h25 (by omega) (fun h' q0 q1 q2 q3 => ih (k + 1) h' (by omega) q0 q1 q2 q3)
set_option maxRecDepth 20000 in
set_option maxHeartbeats 1000000 in
theorem z_ned_s {xs : Nat → Int32} {L d : Nat} {h : ev_H} {th : Int32} {tr : Int64} {ty nx tk pl va fa ss wg : Int32} {c m : Nat} {x : Int32} {G : Nat → Int32} {R : Nat → Int64} (hS : SH h) (hc : c ≤ 16) (hm : m ≤ 24) (hsh : sh1 c ≤ 65536) (h5 : h 420 = .inr (12, [.int th, .long tr, .ref 421, .int ty, .int nx, .int tk, .int pl, .int va, .int fa, .int (nI c), .int (nI m), .int ss, .int wg, .ref 422, .ref 423, .ref 424, .ref 425, .ref 426, .ref 427, .ref 428, .ref 429, .ref 430, .ref 431, .ref 432, .ref 433])) (h25 : h 425 = cL 160 R) (hx : ¬ inR x 0 1 = 0) (hR : ∀ i, i < c → ∀ p, p < 4 → R (4 * i + p) = wO (hdB G i) p) : EV xs L (d + 1) 0 0 M_X12_needed 434 h 0 [some (.ref 420), some (.int x), none, none] [] (fun sz' h' r => sz' = 434 ∧ SH h' ∧ KM [420] h h' ∧ r = [.int (ndR (hdB G) c x)] ∧ h' 420 = c420 0 tr ty nx tk pl va fa (nI c) (nI m) ss wg) := by
  have hp16 : 2 ^ c ≤ 65536 := pw16 hc
  refine r_aload_n rfl dX12_needed_0 rfl ?_
  refine r_iconst (v := 0) rfl dX12_needed_1 (by decide) ?_
  refine e_put 0 (fs' := [.int 0, .long tr, .ref 421, .int ty, .int nx, .int tk, .int pl, .int va, .int fa, .int (nI c), .int (nI m), .int ss, .int wg, .ref 422, .ref 423, .ref 424, .ref 425, .ref 426, .ref 427, .ref 428, .ref 429, .ref 430, .ref 431, .ref 432, .ref 433]) rfl dX12_needed_2 (show 2 ≤ 420 ∧ 420 < 434 by decide) hS (KM_rf (Mod := [420]) h) (by decide) h5 (fp_X12_57 rfl _) (Nat.le_of_ble_eq_true rfl) rfl (fun h51 hS52 hF53 hN54 f55 => ?_)
  have f56 : h51 425 = .inl (1, 160, .inr (.inl R)) := (hN54 425 (by decide)).trans h25
  refine r_iload_n rfl dX12_needed_5 rfl ?_
  refine r_iconst (v := 0) rfl dX12_needed_6 (by decide) ?_
  refine r_iconst (v := 1) rfl dX12_needed_7 (by decide) ?_
  refine cl_X12_60 rfl rfl dX12_needed_8 (Nat.le_of_ble_eq_true rfl) s_X12_in ?_
  rintro _ h57 _ ⟨rfl, e58, rfl⟩
  replace e58 := e58.symm
  subst e58
  refine r_if_ne (tgt := 16) rfl rfl dX12_needed_11 (fun _ => ?_) (fun zc => absurd zc hx)
  refine r_bipush (v := (-9)) rfl dX12_needed_16 (by decide) ?_
  refine r_istore_n (ls' := [some (.ref 420), some (.int x), some (.int (-9)), none]) rfl dX12_needed_18 (Nat.le_of_ble_eq_true rfl) rfl ?_
  refine r_aload_n rfl dX12_needed_19 rfl ?_
  refine r_iconst (v := 1) rfl dX12_needed_20 (by decide) ?_
  refine r_aload_n rfl dX12_needed_21 rfl ?_
  refine r_getv 9 rfl dX12_needed_22 (show 2 ≤ 420 ∧ 420 < 434 by decide) f55 fl_X12_112 rfl ?_
  refine r_ishl rfl dX12_needed_25 ?_
  refine r_eqi (y := nI (sh1 c)) (show 1 <<< ((nI c) &&& 31) = nI (sh1 c) from sh1_e (c := c) (by omega)) ?_
  refine r_iconst (v := 1) rfl dX12_needed_26 (by decide) ?_
  refine r_isub rfl dX12_needed_27 ?_
  refine r_eqi (y := nI (2 ^ c - 1)) (show nI (sh1 c) - nI 1 = nI (2 ^ c - 1) from pk_sub (a := 2 ^ c) (b := 1) (Nat.two_pow_pos c)) ?_
  refine cl_X12_180 rfl rfl dX12_needed_28 (show 2 ≤ 420 ∧ 420 < 434 by decide).1 (show 2 ≤ 420 ∧ 420 < 434 by decide).2 f55 (Nat.le_of_ble_eq_true rfl) (z_X12_clash (S := 2 ^ c - 1) (G := G) hS52 hc hm (by omega) f55 f56 hR) ?_
  rintro _ h59 _ ⟨rfl, e60, rfl⟩
  replace e60 := e60.symm
  subst e60
  refine r_if_eq (tgt := 79) rfl rfl dX12_needed_31 (fun c61 => ?_) (fun c61 => ?_)
  · refine r_iload_n rfl dX12_needed_79 rfl ?_
    refine r_bipush (v := (-9)) rfl dX12_needed_80 (by decide) ?_
    refine r_icmp_eq (tgt := 90) rfl rfl dX12_needed_82 (fun _ => ?_) (fun zc => absurd zc (by decide))
    refine r_iload_n rfl dX12_needed_90 rfl ?_
    refine r_goto (pc' := 98) rfl dX12_needed_91 ?_
    have hn : ¬ clB (hdB G) c (2 ^ c - 1) = true := fun z => by rw [if_pos z] at c61; exact absurd c61 (by decide)
    exact r_ret dX12_needed_98 (rt_i rfl) ⟨rfl, hS52, hF53, (by rw [ndR, if_neg hx, ndA, if_neg hn, sOS, if_pos rfl] <;> rfl), f55⟩
  · refine r_iconst (v := 0) rfl dX12_needed_34 (by decide) ?_
    refine r_istore_n (ls' := [some (.ref 420), some (.int x), some (.int (-9)), some (.int 0)]) rfl dX12_needed_35 (Nat.le_of_ble_eq_true rfl) rfl ?_
    have hF1 : clB (hdB G) c (2 ^ c - 1) = true := Decidable.byContradiction (fun z => c61 (by rw [if_neg z]))
    exact z_no hc hm hsh hx hR hF1 (sh1 c) 0 h51 (by omega) hS52 hF53 f55 f56
set_option maxRecDepth 20000 in
set_option maxHeartbeats 1000000 in
theorem z_ned_o {xs : Nat → Int32} {L d : Nat} {h : ev_H} {th : Int32} {tr : Int64} {ty nx tk pl va fa ss wg : Int32} {c m : Nat} {x : Int32} {G : Nat → Int32} (hS : SH h) (hc : c ≤ 16) (hm : m ≤ 24) (hsh : sh1 c ≤ 65536) (h5 : h 420 = .inr (12, [.int th, .long tr, .ref 421, .int ty, .int nx, .int tk, .int pl, .int va, .int fa, .int (nI c), .int (nI m), .int ss, .int wg, .ref 422, .ref 423, .ref 424, .ref 425, .ref 426, .ref 427, .ref 428, .ref 429, .ref 430, .ref 431, .ref 432, .ref 433])) (hx : inR x 0 1 = 0) : EV xs L (d + 1) 0 0 M_X12_needed 434 h 0 [some (.ref 420), some (.int x), none, none] [] (fun sz' h' r => sz' = 434 ∧ SH h' ∧ KM [420] h h' ∧ r = [.int (ndR (hdB G) c x)] ∧ h' 420 = c420 0 tr ty nx tk pl va fa (nI c) (nI m) ss wg) := by
  refine r_aload_n rfl dX12_needed_0 rfl ?_
  refine r_iconst (v := 0) rfl dX12_needed_1 (by decide) ?_
  refine e_put 0 (fs' := [.int 0, .long tr, .ref 421, .int ty, .int nx, .int tk, .int pl, .int va, .int fa, .int (nI c), .int (nI m), .int ss, .int wg, .ref 422, .ref 423, .ref 424, .ref 425, .ref 426, .ref 427, .ref 428, .ref 429, .ref 430, .ref 431, .ref 432, .ref 433]) rfl dX12_needed_2 (show 2 ≤ 420 ∧ 420 < 434 by decide) hS (KM_rf (Mod := [420]) h) (by decide) h5 (fp_X12_57 rfl _) (Nat.le_of_ble_eq_true rfl) rfl (fun h51 hS52 hF53 hN54 f55 => ?_)
  refine r_iload_n rfl dX12_needed_5 rfl ?_
  refine r_iconst (v := 0) rfl dX12_needed_6 (by decide) ?_
  refine r_iconst (v := 1) rfl dX12_needed_7 (by decide) ?_
  refine cl_X12_60 rfl rfl dX12_needed_8 (Nat.le_of_ble_eq_true rfl) s_X12_in ?_
  rintro _ h56 _ ⟨rfl, e57, rfl⟩
  replace e57 := e57.symm
  subst e57
  refine r_if_ne (tgt := 16) rfl rfl dX12_needed_11 (fun zc => absurd zc (fun z => z hx)) (fun _ => ?_)
  refine r_iconst (v := (-1)) rfl dX12_needed_14 (by decide) ?_
  exact r_ret dX12_needed_15 (rt_i rfl) ⟨rfl, hS52, hF53, (by rw [ndR, if_pos hx] <;> rfl), f55⟩
