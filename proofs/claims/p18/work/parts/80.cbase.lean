/-- cells lo .. hi - 1 are as the makers leave them -/
def BT (lo hi : Nat) (h : ev_H) : Prop := ∀ k, lo ≤ k → k < hi → sse (cs0 k) (h k)
/-- cells below a are unchanged -/
def KL (a : Nat) (h h' : ev_H) : Prop := ∀ k, k < a → h' k = h k
/-- all cells but a are unchanged -/
def KN (a : Nat) (h h' : ev_H) : Prop := ∀ k, k ≠ a → h' k = h k
theorem KL_rf (a : Nat) (h : ev_H) : KL a h h := fun _ _ => rfl
theorem KL_tr {a b : Nat} {h1 h2 h3 : ev_H} (hab : a ≤ b) (p : KL a h1 h2) (q : KL b h2 h3) : KL a h1 h3 := fun k hk => (q k (Nat.lt_of_lt_of_le hk hab)).trans (p k hk)
theorem KL_kn {a b : Nat} {h1 h2 h3 : ev_H} (hab : a ≤ b) (p : KL a h1 h2) (q : KN b h2 h3) : KL a h1 h3 := fun k hk => (q k (Nat.ne_of_lt (Nat.lt_of_lt_of_le hk hab))).trans (p k hk)
theorem BT_nil (a : Nat) (h : ev_H) : BT a a h := fun k h1 h2 => absurd h1 (Nat.not_le.mpr h2)
theorem BT_kl {lo hi a : Nat} {h h' : ev_H} (hB : BT lo hi h) (hk : KL a h h') (ha : hi ≤ a) : BT lo hi h' := fun k h1 h2 => by rw [hk k (Nat.lt_of_lt_of_le h2 ha)]; exact hB k h1 h2
theorem BT_kn {lo hi a : Nat} {h h' : ev_H} (hB : BT lo hi h) (hk : KN a h h') (ha : a < lo ∨ hi ≤ a) : BT lo hi h' := fun k h1 h2 => by rw [hk k (by omega)]; exact hB k h1 h2
theorem BT_jn {lo mid hi : Nat} {h : ev_H} (p : BT lo mid h) (q : BT mid hi h) : BT lo hi h := fun k h1 h2 => by
  by_cases hm : k < mid
  · exact p k h1 hm
  · exact q k (by omega) h2
theorem BT_1 {a : Nat} {h : ev_H} {x : va_E} (hx : h a = x) (hs : sse (cs0 a) x) : BT a (a + 1) h := fun k h1 h2 => by
  obtain rfl : k = a := by omega
  rw [hx]; exact hs
theorem BT_ws {a : Nat} {h : ev_H} (ha : wsAt a) (h1 : h a = .inr (10, [.ref (a + 1)])) {g : Nat → Int64} (h2 : h (a + 1) = .inl (1, 4, .inr (.inl g))) : BT a (a + 2) h := BT_jn (BT_1 h1 (by rw [ha.1]; exact sse_rf _)) (BT_1 h2 (by rw [ha.2.1]; exact ⟨g, rfl⟩))
theorem kOK_def (ty : FieldType) : kOK ty (defaultValue ty) := by
  cases ty <;> simp [kOK, defaultValue]
theorem wt_def {ci : Nat} {q : vw_C} {fs : List Value} (hq : dp_cl[ci]? = some q) (hf : (List.range q.2.2).map (fun j => defaultValue (dp_ty ci j)) = fs) : wte (.inr (ci, fs)) := by
  intro q' hq'
  obtain rfl : q' = q := Option.some.inj (hq'.symm.trans hq)
  subst hf
  refine ⟨by simp, fun k v hv => ?_⟩
  rw [List.getElem?_map] at hv
  by_cases hk : k < q'.2.2
  · rw [List.getElem?_range hk] at hv
    cases hv
    exact kOK_def _
  · rw [List.getElem?_eq_none (by simp; omega)] at hv
    cases hv
theorem put_wt {h : ev_H} {a ci k idx ks : Nat} {fs : List Value} {v : Value} {y : MethodName} (hw : WTH h) (g3 : h a = .inr (ci, fs)) (g4 : ev_fp ks y idx ci k v) (g5 : k < fs.length) : wte (.inr (ci, fs.set k v)) := by
  have hwa := hw a
  rw [g3] at hwa
  obtain ⟨q, e1, e2, e3, e4, e5⟩ := id g4
  intro q' hq'
  obtain ⟨w1, w2⟩ := hwa q' hq'
  obtain rfl : q' = q := Option.some.inj (hq'.symm.trans e1)
  refine ⟨by rw [List.length_set]; exact w1, fun j w hjw => ?_⟩
  by_cases hjk : k = j
  · subst hjk
    rw [List.getElem?_set_self g5] at hjw
    cases hjw
    exact kOK_fits e4
  · rw [List.getElem?_set_ne hjk] at hjw
    exact w2 j w hjw
section CR
variable {xs : Nat → Int32} {L d kc ks : Nat} {M : ev_M} {sz : Nat} {h : ev_H} {pc pc' : Nat} {ls : ev_L} {st : List Value} {Q : ev_Q}
theorem r_bud {kc' ks' : Nat} (h1 : kc = kc') (h2 : ks = ks') (k : EV xs L d kc' ks' M sz h pc ls st Q) : EV xs L d kc ks M sz h pc ls st Q := by
  subst h1
  subst h2
  exact k
theorem k_new {idx N : Nat} (ci : Nat) {q : vw_C} {fs : List Value} (hp : pc + 3 = pc') (hd : decode M.2.1 pc = .ok (.new idx, 3)) (hW : WTH h) (hq : dp_cl[ci]? = some q) (hN : q.2.2 = N) (h1 : Cond.classLink M.1.cls idx q.1 ∈ dp_tb) (h2 : Cond.instantiable q.1 q.2.2 ∈ dp_tb) (h3 : Cond.initialized q.1 ∈ dp_tb) (hf : (List.range q.2.2).map (fun j => defaultValue (dp_ty ci j)) = fs) (k : ∀ h', WTH h' → KL sz h h' → h' sz = .inr (ci, fs) → EV xs L d kc ks M (sz + 1) h' pc' ls (.ref sz :: st) Q) : EV xs L d (kc + 1) (ks + N) M sz h pc ls st Q :=
  r_new ci hp hd hq hN h1 h2 h3 hf (k _ (up_wt hW (wt_def hq hf)) (fun j hj => va_up_ne _ _ (Nat.ne_of_lt hj)) (va_up_self _ _ _))
theorem k_newa {ty : ArrayType} {n : Int32} {N t : Nat} {x : vp_A} (hp : pc + 2 = pc') (hd : decode M.2.1 pc = .ok (.newarray ty, 2)) (hW : WTH h) (hn : ¬ n < 0) (hN : n.toNatClampNeg = N) (hb : N ≤ 65536) (ht : ev_at ty = some (t, x)) (hc : Cond.arrayClass (newarray.typeOf ty) ∈ dp_tb) (k : ∀ h', WTH h' → KL sz h h' → h' sz = .inl (t, N, x.2) → EV xs L d kc ks M (sz + 1) h' pc' ls (.ref sz :: st) Q) : EV xs L d (kc + 1) (ks + N) M sz h pc ls (.int n :: st) Q :=
  r_newa hp hd hn hN hb ht hc (k _ (up_wt hW trivial) (fun j hj => va_up_ne _ _ (Nat.ne_of_lt hj)) (va_up_self _ _ _))
theorem k_anew {idx : Nat} {n : Int32} {N t : Nat} {C : String} (hp : pc + 3 = pc') (hd : decode M.2.1 pc = .ok (.anewarray idx, 3)) (hW : WTH h) (hn : ¬ n < 0) (hN : n.toNatClampNeg = N) (hb : N ≤ 65536) (ht : t = 3 ∧ C = RX10 ∨ t = 4 ∧ C = RX3) (hc : Cond.classLink M.1.cls idx C ∈ dp_tb) (ho : Cond.arrayOver (.object C) ∈ dp_nb) (k : ∀ h', WTH h' → KL sz h h' → h' sz = .inl (t, N, .inr (.inr (.inr (.inr (fun _ => none))))) → EV xs L d kc ks M (sz + 1) h' pc' ls (.ref sz :: st) Q) : EV xs L d (kc + 1) (ks + N) M sz h pc ls (.int n :: st) Q :=
  r_anew hp hd hn hN hb ht hc ho (k _ (up_wt hW trivial) (fun j hj => va_up_ne _ _ (Nat.ne_of_lt hj)) (va_up_self _ _ _))
theorem k_pc {idx a ci : Nat} {fs fs' : List Value} {v : Value} (f : Nat) (hp : pc + 3 = pc') (hd : decode M.2.1 pc = .ok (.putfield idx, 3)) (ha : 2 ≤ a) (hs : a < sz) (hW : WTH h) (hh : h a = .inr (ci, fs)) (hf : ev_fp ks M.1 idx ci f v) (hl : f < fs.length) (he : fs.set f v = fs') (k : ∀ h', WTH h' → KN a h h' → h' a = .inr (ci, fs') → EV xs L d kc ks M sz h' pc' ls st Q) : EV xs L d kc ks M sz h pc ls (v :: .ref a :: st) Q :=
  r_put hp hd ha hs hh f hf hl he (k _ (by rw [← he]; exact up_wt hW (put_wt hW hh hf hl)) (fun j hj => va_up_ne _ _ hj) (va_up_self _ _ _))
theorem k_aast {jn : Nat} {a n t v ci : Nat} {j : Int32} {f : Nat → Option Nat} {fs : List Value} {q : vw_C} (hp : pc + 1 = pc') (hd : decode M.2.1 pc = .ok (.aastore, 1)) (ha : 2 ≤ a ∧ a < sz) (hv : 2 ≤ v ∧ v < sz) (hW : WTH h) (hh : h a = .inl (t, n, .inr (.inr (.inr (.inr f))))) (hw : h v = .inr (ci, fs)) (hq : dp_cl[ci]? = some q) (ht : t = 3 ∧ q.1 = RX10 ∨ t = 4 ∧ q.1 = RX3) (hk : 0 < ks) (hj : vp_in j n) (hjn : j.toNatClampNeg = jn) (k : ∀ h', WTH h' → KN a h h' → h' a = .inl (t, n, .inr (.inr (.inr (.inr (va_up f jn (some v)))))) → EV xs L d kc ks M sz h' pc' ls st Q) : EV xs L d kc ks M sz h pc ls (.ref v :: .int j :: .ref a :: st) Q :=
  r_aast hp hd ha.1 ha.2 hv.1 hv.2 hh hw hq ht hk hj hjn (k _ (up_wt hW trivial) (fun j hj => va_up_ne _ _ hj) (va_up_self _ _ _))
end CR
theorem ss_3 {b : Nat} {x1 x2 x3 x4 x5 x6 y1 y2 y3 y4 y5 y6 : Value} : sse (.inr (3, [.ref b, x1, x2, x3, x4, x5, x6])) (.inr (3, [.ref b, y1, y2, y3, y4, y5, y6])) := ⟨_, rfl, fun q hq k hk => by
  obtain rfl : q = (RX3, TX3, 7) := Option.some.inj (hq.symm.trans rfl)
  match k, hk with
  | 0, _ => rfl
  | 1, hk => cases hk
  | 2, hk => cases hk
  | 3, hk => cases hk
  | 4, hk => cases hk
  | 5, hk => cases hk
  | 6, hk => cases hk
  | k + 7, _ => rfl⟩
theorem fl_up (b s k n : Nat) (hk : k < n) : va_up (fun j => if j < k then some (b + s * j) else none) k (some (b + s * k)) = fun j => if j < k + 1 then some (b + s * j) else none := by
  funext j
  by_cases h : j = k
  · subst h
    rw [va_up_self, if_pos (Nat.lt_succ_self j)]
  · rw [va_up_ne _ _ h]
    by_cases h2 : j < k
    · rw [if_pos h2, if_pos (by omega)]
    · rw [if_neg h2, if_neg (by omega)]
theorem fl_all (b s n : Nat) : (fun j => if j < 0 then some (b + s * j) else none) = (fun _ => none : Nat → Option Nat) := by
  funext j
  rw [if_neg (Nat.not_lt_zero j)]
theorem lk_oi : Cond.instanceMethod objectInit ∈ dp_tb := dp_m 23 (by decide +kernel) rfl
theorem lk_oc : Cond.code objectInit ⟨#[0xb1]⟩ 1 none ∈ dp_tb := dp_m 24 (by decide +kernel) rfl
theorem lz_X11 : Cond.initialized RX11 ∈ dp_tb := dp_m 1 (by decide +kernel) rfl
theorem lz_X8 : Cond.initialized RX8 ∈ dp_tb := dp_m 2 (by decide +kernel) rfl
theorem lz_X4 : Cond.initialized RX4 ∈ dp_tb := dp_m 3 (by decide +kernel) rfl
theorem lz_X7 : Cond.initialized RX7 ∈ dp_tb := dp_m 4 (by decide +kernel) rfl
theorem lz_X10 : Cond.initialized RX10 ∈ dp_tb := dp_m 5 (by decide +kernel) rfl
theorem lz_X0 : Cond.initialized RX0 ∈ dp_tb := dp_m 6 (by decide +kernel) rfl
theorem lz_X9 : Cond.initialized RX9 ∈ dp_tb := dp_m 7 (by decide +kernel) rfl
theorem lz_X6 : Cond.initialized RX6 ∈ dp_tb := dp_m 8 (by decide +kernel) rfl
theorem lz_X2 : Cond.initialized RX2 ∈ dp_tb := dp_m 9 (by decide +kernel) rfl
theorem lz_X5 : Cond.initialized RX5 ∈ dp_tb := dp_m 10 (by decide +kernel) rfl
theorem lz_X1 : Cond.initialized RX1 ∈ dp_tb := dp_m 11 (by decide +kernel) rfl
theorem lz_X3 : Cond.initialized RX3 ∈ dp_tb := dp_m 12 (by decide +kernel) rfl
theorem lz_X12 : Cond.initialized RX12 ∈ dp_tb := dp_m 13 (by decide +kernel) rfl
theorem lk_L_7 : Cond.classLink R_law 7 RX11 ∈ dp_tb := dp_m 17 (by decide +kernel) rfl
theorem lt_X11 : Cond.instantiable RX11 16 ∈ dp_tb := dp_m 18 (by decide +kernel) rfl
theorem lo_X11 : Cond.methodLink RX11 3 objectInit ∈ dp_tb := dp_m 22 (by decide +kernel) rfl
theorem lk_X11_9 : Cond.classLink RX11 9 RX8 ∈ dp_tb := dp_m 25 (by decide +kernel) rfl
theorem lt_X8 : Cond.instantiable RX8 6 ∈ dp_tb := dp_m 26 (by decide +kernel) rfl
theorem lo_X8 : Cond.methodLink RX8 3 objectInit ∈ dp_tb := dp_m 30 (by decide +kernel) rfl
theorem lac_byte : Cond.arrayClass (newarray.typeOf .byte) ∈ dp_tb := dp_m 50 (by decide +kernel) rfl
theorem lk_X11_16 : Cond.classLink RX11 16 RX4 ∈ dp_tb := dp_m 51 (by decide +kernel) rfl
theorem lt_X4 : Cond.instantiable RX4 10 ∈ dp_tb := dp_m 52 (by decide +kernel) rfl
theorem lo_X4 : Cond.methodLink RX4 3 objectInit ∈ dp_tb := dp_m 56 (by decide +kernel) rfl
theorem lac_int : Cond.arrayClass (newarray.typeOf .int) ∈ dp_tb := dp_m 88 (by decide +kernel) rfl
theorem lk_X11_23 : Cond.classLink RX11 23 RX3 ∈ dp_tb := dp_m 89 (by decide +kernel) rfl
theorem lao_X3 : Cond.arrayOver (.object RX3) ∈ dp_nb := dp_n 90 (by decide +kernel) rfl
theorem lk_X11_29 : Cond.classLink RX11 29 RX7 ∈ dp_tb := dp_m 91 (by decide +kernel) rfl
theorem lt_X7 : Cond.instantiable RX7 9 ∈ dp_tb := dp_m 92 (by decide +kernel) rfl
theorem lo_X7 : Cond.methodLink RX7 3 objectInit ∈ dp_tb := dp_m 96 (by decide +kernel) rfl
theorem lk_X7_9 : Cond.classLink RX7 9 RX10 ∈ dp_tb := dp_m 97 (by decide +kernel) rfl
theorem lt_X10 : Cond.instantiable RX10 1 ∈ dp_tb := dp_m 98 (by decide +kernel) rfl
theorem lo_X10 : Cond.methodLink RX10 3 objectInit ∈ dp_tb := dp_m 102 (by decide +kernel) rfl
theorem lac_long : Cond.arrayClass (newarray.typeOf .long) ∈ dp_tb := dp_m 107 (by decide +kernel) rfl
theorem lk_X11_36 : Cond.classLink RX11 36 RX0 ∈ dp_tb := dp_m 153 (by decide +kernel) rfl
theorem lt_X0 : Cond.instantiable RX0 6 ∈ dp_tb := dp_m 154 (by decide +kernel) rfl
theorem lo_X0 : Cond.methodLink RX0 3 objectInit ∈ dp_tb := dp_m 158 (by decide +kernel) rfl
theorem lk_X0_9 : Cond.classLink RX0 9 RX10 ∈ dp_tb := dp_m 159 (by decide +kernel) rfl
theorem lao_X10 : Cond.arrayOver (.object RX10) ∈ dp_nb := dp_n 160 (by decide +kernel) rfl
theorem lk_X11_43 : Cond.classLink RX11 43 RX10 ∈ dp_tb := dp_m 181 (by decide +kernel) rfl
theorem lk_X11_50 : Cond.classLink RX11 50 RX9 ∈ dp_tb := dp_m 183 (by decide +kernel) rfl
theorem lt_X9 : Cond.instantiable RX9 1 ∈ dp_tb := dp_m 184 (by decide +kernel) rfl
theorem lo_X9 : Cond.methodLink RX9 1 objectInit ∈ dp_tb := dp_m 188 (by decide +kernel) rfl
theorem lk_X11_57 : Cond.classLink RX11 57 RX6 ∈ dp_tb := dp_m 193 (by decide +kernel) rfl
theorem lt_X6 : Cond.instantiable RX6 0 ∈ dp_tb := dp_m 194 (by decide +kernel) rfl
theorem lo_X6 : Cond.methodLink RX6 1 objectInit ∈ dp_tb := dp_m 198 (by decide +kernel) rfl
theorem lk_X11_64 : Cond.classLink RX11 64 RX2 ∈ dp_tb := dp_m 200 (by decide +kernel) rfl
theorem lt_X2 : Cond.instantiable RX2 0 ∈ dp_tb := dp_m 201 (by decide +kernel) rfl
theorem lk_X11_70 : Cond.classLink RX11 70 RX5 ∈ dp_tb := dp_m 207 (by decide +kernel) rfl
theorem lt_X5 : Cond.instantiable RX5 0 ∈ dp_tb := dp_m 208 (by decide +kernel) rfl
theorem lk_X11_76 : Cond.classLink RX11 76 RX1 ∈ dp_tb := dp_m 214 (by decide +kernel) rfl
theorem lt_X1 : Cond.instantiable RX1 0 ∈ dp_tb := dp_m 215 (by decide +kernel) rfl
theorem lt_X3 : Cond.instantiable RX3 7 ∈ dp_tb := dp_m 221 (by decide +kernel) rfl
theorem lo_X3 : Cond.methodLink RX3 3 objectInit ∈ dp_tb := dp_m 225 (by decide +kernel) rfl
theorem lk_X3_9 : Cond.classLink RX3 9 RX10 ∈ dp_tb := dp_m 226 (by decide +kernel) rfl
theorem lk_L_10 : Cond.classLink R_law 10 RX12 ∈ dp_tb := dp_m 809 (by decide +kernel) rfl
theorem lt_X12 : Cond.instantiable RX12 25 ∈ dp_tb := dp_m 810 (by decide +kernel) rfl
theorem lo_X12 : Cond.methodLink RX12 1 objectInit ∈ dp_tb := dp_m 814 (by decide +kernel) rfl
