def ws4 (t : Nat → Int64) (a b c d : Int64) : Nat → Int64 := fun j => if j = 0 then a else if j = 1 then b else if j = 2 then c else if j = 3 then d else t j
def sel4 (a b c d : Int64) (j : Nat) : Int64 := if j = 0 then a else if j = 1 then b else if j = 2 then c else d
theorem ws4_s {t : Nat → Int64} {a b c d : Int64} {j : Nat} (h : j < 4) : ws4 t a b c d j = sel4 a b c d j := by
  match j, h with
  | 0, _ => rfl
  | 1, _ => rfl
  | 2, _ => rfl
  | 3, _ => rfl
theorem vp_in_lt {j : Int32} {n : Nat} (h : vp_in j n) : j.toNatClampNeg < n := Nat.not_le.mp fun q => h (Or.inr q)
theorem ws4_of (g : Nat → Int64) : g = ws4 g (g 0) (g 1) (g 2) (g 3) := by
  funext j
  unfold ws4
  by_cases h0 : j = 0
  · subst h0; rfl
  by_cases h1 : j = 1
  · subst h1; rfl
  by_cases h2 : j = 2
  · subst h2; rfl
  by_cases h3 : j = 3
  · subst h3; rfl
  simp [h0, h1, h2, h3]
theorem ws4_u0 (t : Nat → Int64) (a b c d x : Int64) : vp_updL (ws4 t a b c d) 0 x = ws4 t x b c d := by
  funext j
  unfold vp_updL ws4
  by_cases h : j = 0
  · subst h; rfl
  · simp [h]
theorem ws4_u1 (t : Nat → Int64) (a b c d x : Int64) : vp_updL (ws4 t a b c d) 1 x = ws4 t a x c d := by
  funext j
  unfold vp_updL ws4
  by_cases h : j = 1
  · subst h; rfl
  · simp [h]
theorem ws4_u2 (t : Nat → Int64) (a b c d x : Int64) : vp_updL (ws4 t a b c d) 2 x = ws4 t a b x d := by
  funext j
  unfold vp_updL ws4
  by_cases h : j = 2
  · subst h; rfl
  · simp [h]
theorem ws4_u3 (t : Nat → Int64) (a b c d x : Int64) : vp_updL (ws4 t a b c d) 3 x = ws4 t a b c x := by
  funext j
  unfold vp_updL ws4
  by_cases h : j = 3
  · subst h; rfl
  · simp [h]
theorem ws4_up {t : Nat → Int64} {a b c d x : Int64} {j : Nat} (h : j < 4) : vp_updL (ws4 t a b c d) j x = ws4 t (if j = 0 then x else a) (if j = 1 then x else b) (if j = 2 then x else c) (if j = 3 then x else d) := by
  match j, h with
  | 0, _ => exact ws4_u0 _ _ _ _ _ _
  | 1, _ => exact ws4_u1 _ _ _ _ _ _
  | 2, _ => exact ws4_u2 _ _ _ _ _ _
  | 3, _ => exact ws4_u3 _ _ _ _ _ _
/-- a set of worlds at a, its parts at q -/
def isWS (h : ev_H) (sz a q : Nat) (t : Nat → Int64) (x0 x1 x2 x3 : Int64) : Prop := (2 ≤ a ∧ a < sz) ∧ (2 ≤ q ∧ q < sz) ∧ h a = .inr (10, [.ref q]) ∧ h q = .inl (1, 4, .inr (.inl (ws4 t x0 x1 x2 x3)))
section R2
variable {xs : Nat → Int32} {L d kc ks : Nat} {M : ev_M} {sz : Nat} {h : ev_H} {pc pc' : Nat} {ls : ev_L} {st : List Value} {Q : ev_Q}
theorem r_eqi {x y : Int32} (e : x = y) (k : EV xs L d kc ks M sz h pc ls (.int y :: st) Q) : EV xs L d kc ks M sz h pc ls (.int x :: st) Q := by rw [e]; exact k
theorem r_eql {x y : Int64} (e : x = y) (k : EV xs L d kc ks M sz h pc ls (.long y :: st) Q) : EV xs L d kc ks M sz h pc ls (.long x :: st) Q := by rw [e]; exact k
theorem r_heap (k : ∀ h', h' = h → EV xs L d kc ks M sz h' pc ls st Q) : EV xs L d kc ks M sz h pc ls st Q := k h rfl
theorem r_laldv {a n jn : Nat} {j : Int32} {f : Nat → Int64} {v : Int64} (hp : pc + 1 = pc') (hd : decode M.2.1 pc = .ok (.laload, 1)) (ha : 2 ≤ a ∧ a < sz) (hh : h a = .inl (1, n, .inr (.inl f))) (hj : vp_in j n) (hjn : j.toNatClampNeg = jn) (hv : f jn = v) (k : EV xs L d kc ks M sz h pc' ls (.long v :: st) Q) : EV xs L d kc ks M sz h pc ls (.int j :: .ref a :: st) Q := r_lald hp hd ha.1 ha.2 hh hj hjn (by rw [hv]; exact k)
theorem r_ialdv {a n jn : Nat} {j : Int32} {f : Nat → Int32} {v : Int32} (hp : pc + 1 = pc') (hd : decode M.2.1 pc = .ok (.iaload, 1)) (ha : 2 ≤ a ∧ a < sz) (hh : h a = .inl (0, n, .inl f)) (hj : vp_in j n) (hjn : j.toNatClampNeg = jn) (hv : f jn = v) (k : EV xs L d kc ks M sz h pc' ls (.int v :: st) Q) : EV xs L d kc ks M sz h pc ls (.int j :: .ref a :: st) Q := r_iald hp hd ha.1 ha.2 hh hj hjn (by rw [hv]; exact k)
theorem r_baldv {a n jn : Nat} {j : Int32} {f : Nat → Int32} {v : Int32} (hp : pc + 1 = pc') (hd : decode M.2.1 pc = .ok (.baload, 1)) (ha : 2 ≤ a ∧ a < sz) (hh : h a = .inl (2, n, .inl f)) (hj : vp_in j n) (hjn : j.toNatClampNeg = jn) (hv : f jn = v) (k : EV xs L d kc ks M sz h pc' ls (.int v :: st) Q) : EV xs L d kc ks M sz h pc ls (.int j :: .ref a :: st) Q := r_bald hp hd ha.1 ha.2 hh hj hjn (by rw [hv]; exact k)
theorem r_soldv {jn : Nat} {j : Int32} {v : Int64} (hp : pc + 1 = pc') (hd : decode M.2.1 pc = .ok (.laload, 1)) (hj : vp_in j 6) (hjn : j.toNatClampNeg = jn) (hv : ev_so jn = v) (k : EV xs L d kc ks M sz h pc' ls (.long v :: st) Q) : EV xs L d kc ks M sz h pc ls (.int j :: .ref 1 :: st) Q := r_sold hp hd hj hjn (by rw [hv]; exact k)
theorem r_lastv {a n jn : Nat} {j : Int32} {x : Int64} {f f' : Nat → Int64} (hp : pc + 1 = pc') (hd : decode M.2.1 pc = .ok (.lastore, 1)) (ha : 2 ≤ a ∧ a < sz) (hh : h a = .inl (1, n, .inr (.inl f))) (hj : vp_in j n) (hjn : j.toNatClampNeg = jn) (hf : vp_updL f jn x = f') (k : ∀ h', h' = va_up h a (.inl (1, n, .inr (.inl f'))) → EV xs L d kc ks M sz h' pc' ls st Q) : EV xs L d kc ks M sz h pc ls (.long x :: .int j :: .ref a :: st) Q := r_last hp hd ha.1 ha.2 hh hj hjn (by rw [hf]; exact k _ rfl)
theorem r_iastv {a n jn : Nat} {j x : Int32} {f f' : Nat → Int32} (hp : pc + 1 = pc') (hd : decode M.2.1 pc = .ok (.iastore, 1)) (ha : 2 ≤ a ∧ a < sz) (hh : h a = .inl (0, n, .inl f)) (hj : vp_in j n) (hjn : j.toNatClampNeg = jn) (hf : upd f jn x = f') (k : ∀ h', h' = va_up h a (.inl (0, n, .inl f')) → EV xs L d kc ks M sz h' pc' ls st Q) : EV xs L d kc ks M sz h pc ls (.int x :: .int j :: .ref a :: st) Q := r_iast hp hd ha.1 ha.2 hh hj hjn (by rw [hf]; exact k _ rfl)
theorem r_getv {idx a ci : Nat} {fs : List Value} {v : Value} (f : Nat) (hp : pc + 3 = pc') (hd : decode M.2.1 pc = .ok (.getfield idx, 3)) (ha : 2 ≤ a ∧ a < sz) (hh : h a = .inr (ci, fs)) (hf : ev_fl M.1.cls idx ci f) (hv : fs[f]? = some v) (k : EV xs L d kc ks M sz h pc' ls (v :: st) Q) : EV xs L d kc ks M sz h pc ls (.ref a :: st) Q := r_get hp hd ha.1 ha.2 hh f hf hv k
theorem r_putv {idx a ci : Nat} {fs fs' : List Value} {v : Value} (f : Nat) (hp : pc + 3 = pc') (hd : decode M.2.1 pc = .ok (.putfield idx, 3)) (ha : 2 ≤ a ∧ a < sz) (hh : h a = .inr (ci, fs)) (hf : ev_fp ks M.1 idx ci f v) (hl : f < fs.length) (he : fs.set f v = fs') (k : ∀ h', h' = va_up h a (.inr (ci, fs')) → EV xs L d kc ks M sz h' pc' ls st Q) : EV xs L d kc ks M sz h pc ls (v :: .ref a :: st) Q := r_put hp hd ha.1 ha.2 hh f hf hl he (k _ rfl)
end R2
theorem va_up_up {α : Type} (f : Nat → α) (k : Nat) (v w : α) : va_up (va_up f k v) k w = va_up f k w := bx_uu f k v w
theorem rt_i {ret : Option FieldType} {v : Int32} (h : ret = some .int) : ev_rt ret .ireturn [.int v] := Or.inl ⟨rfl, v, rfl, .int, h, rfl⟩
theorem rt_z {ret : Option FieldType} {v : Int32} (h : ret = some .boolean) (hv : v = 0 ∨ v = 1) : ev_rt ret .ireturn [.int v] := by
  refine Or.inl ⟨rfl, v, rfl, .boolean, h, ?_⟩
  rcases hv with rfl | rfl <;> rfl
theorem rt_l {ret : Option FieldType} {v : Int64} (h : ret = some .long) : ev_rt ret .lreturn [.long v] := Or.inr (Or.inl ⟨rfl, v, rfl, h⟩)
theorem rt_v {ret : Option FieldType} (h : ret = none) : ev_rt ret .return_ [] := Or.inr (Or.inr (Or.inr ⟨rfl, rfl, h⟩))
theorem rt_a {ret : Option FieldType} {a : Nat} {n : String} (h : ret = some (.object n)) : ev_rt ret .areturn [.ref a] := Or.inr (Or.inr (Or.inl ⟨rfl, _, rfl, Or.inr ⟨a, rfl⟩, n, h⟩))
theorem rt_n {ret : Option FieldType} {n : String} (h : ret = some (.object n)) : ev_rt ret .areturn [.null] := Or.inr (Or.inr (Or.inl ⟨rfl, _, rfl, Or.inl rfl, n, h⟩))
theorem vpi {j m : Int32} {n : Nat} (hm : m.toInt = n) (h0 : ¬ j < 0) (h1 : ¬ m ≤ j) : vp_in j n := by
  rw [vp_in_iff]
  rw [Int32.lt_iff_toInt_lt] at h0
  rw [Int32.le_iff_toInt_le] at h1
  simp at h0
  omega
theorem fp_X8_9 {ks : Nat} {y : MethodName} (hy : y.cls = RX8) (hn : y.name = "<init>") (hk : 0 < ks) (a : Nat) : ev_fp ks y 9 8 0 (.ref a) := ⟨_, rfl, by decide, rfl, rfl, Or.inr ⟨rfl, hk, hn, hy.symm, by rw [hy]; exact (dp_m 31 (by decide +kernel) rfl)⟩⟩
theorem fp_X8_15 {ks : Nat} {y : MethodName} (hy : y.cls = RX8) (x : Int32) : ev_fp ks y 15 8 1 (.int x) := ⟨_, rfl, by decide, rfl, rfl, Or.inl ⟨rfl, by rw [hy]; exact Or.inl (dp_m 32 (by decide +kernel) rfl)⟩⟩
theorem fp_X8_28 {ks : Nat} {y : MethodName} (hy : y.cls = RX8) (x : Int32) : ev_fp ks y 28 8 2 (.int x) := ⟨_, rfl, by decide, rfl, rfl, Or.inl ⟨rfl, by rw [hy]; exact Or.inl (dp_m 33 (by decide +kernel) rfl)⟩⟩
theorem fp_X8_25 {ks : Nat} {y : MethodName} (hy : y.cls = RX8) (x : Int32) : ev_fp ks y 25 8 3 (.int x) := ⟨_, rfl, by decide, rfl, rfl, Or.inl ⟨rfl, by rw [hy]; exact Or.inl (dp_m 34 (by decide +kernel) rfl)⟩⟩
theorem fp_X8_19 {ks : Nat} {y : MethodName} (hy : y.cls = RX8) (x : Int32) : ev_fp ks y 19 8 4 (.int x) := ⟨_, rfl, by decide, rfl, rfl, Or.inl ⟨rfl, by rw [hy]; exact Or.inl (dp_m 35 (by decide +kernel) rfl)⟩⟩
theorem fp_X8_22 {ks : Nat} {y : MethodName} (hy : y.cls = RX8) (x : Int32) : ev_fp ks y 22 8 5 (.int x) := ⟨_, rfl, by decide, rfl, rfl, Or.inl ⟨rfl, by rw [hy]; exact Or.inl (dp_m 36 (by decide +kernel) rfl)⟩⟩
theorem fp_X4_9 {ks : Nat} {y : MethodName} (hy : y.cls = RX4) (hn : y.name = "<init>") (hk : 0 < ks) (a : Nat) : ev_fp ks y 9 4 0 (.ref a) := ⟨_, rfl, by decide, rfl, rfl, Or.inr ⟨rfl, hk, hn, hy.symm, by rw [hy]; exact (dp_m 57 (by decide +kernel) rfl)⟩⟩
theorem fp_X4_15 {ks : Nat} {y : MethodName} (hy : y.cls = RX4) (hn : y.name = "<init>") (hk : 0 < ks) (a : Nat) : ev_fp ks y 15 4 1 (.ref a) := ⟨_, rfl, by decide, rfl, rfl, Or.inr ⟨rfl, hk, hn, hy.symm, by rw [hy]; exact (dp_m 58 (by decide +kernel) rfl)⟩⟩
theorem fp_X4_18 {ks : Nat} {y : MethodName} (hy : y.cls = RX4) (hn : y.name = "<init>") (hk : 0 < ks) (a : Nat) : ev_fp ks y 18 4 2 (.ref a) := ⟨_, rfl, by decide, rfl, rfl, Or.inr ⟨rfl, hk, hn, hy.symm, by rw [hy]; exact (dp_m 59 (by decide +kernel) rfl)⟩⟩
theorem fp_X4_30 {ks : Nat} {y : MethodName} (hy : y.cls = RX4) (x : Int32) : ev_fp ks y 30 4 3 (.int x) := ⟨_, rfl, by decide, rfl, rfl, Or.inl ⟨rfl, by rw [hy]; exact Or.inl (dp_m 60 (by decide +kernel) rfl)⟩⟩
theorem fp_X4_60 {ks : Nat} {y : MethodName} (hy : y.cls = RX4) (x : Int32) : ev_fp ks y 60 4 4 (.int x) := ⟨_, rfl, by decide, rfl, rfl, Or.inl ⟨rfl, by rw [hy]; exact Or.inl (dp_m 61 (by decide +kernel) rfl)⟩⟩
theorem fp_X4_63 {ks : Nat} {y : MethodName} (hy : y.cls = RX4) (x : Int32) : ev_fp ks y 63 4 5 (.int x) := ⟨_, rfl, by decide, rfl, rfl, Or.inl ⟨rfl, by rw [hy]; exact Or.inl (dp_m 62 (by decide +kernel) rfl)⟩⟩
theorem fp_X4_21 {ks : Nat} {y : MethodName} (hy : y.cls = RX4) (hn : y.name = "<init>") (hk : 0 < ks) (a : Nat) : ev_fp ks y 21 4 6 (.ref a) := ⟨_, rfl, by decide, rfl, rfl, Or.inr ⟨rfl, hk, hn, hy.symm, by rw [hy]; exact (dp_m 63 (by decide +kernel) rfl)⟩⟩
theorem fp_X4_24 {ks : Nat} {y : MethodName} (hy : y.cls = RX4) (hn : y.name = "<init>") (hk : 0 < ks) (a : Nat) : ev_fp ks y 24 4 7 (.ref a) := ⟨_, rfl, by decide, rfl, rfl, Or.inr ⟨rfl, hk, hn, hy.symm, by rw [hy]; exact (dp_m 64 (by decide +kernel) rfl)⟩⟩
theorem fp_X4_27 {ks : Nat} {y : MethodName} (hy : y.cls = RX4) (hn : y.name = "<init>") (hk : 0 < ks) (a : Nat) : ev_fp ks y 27 4 8 (.ref a) := ⟨_, rfl, by decide, rfl, rfl, Or.inr ⟨rfl, hk, hn, hy.symm, by rw [hy]; exact (dp_m 65 (by decide +kernel) rfl)⟩⟩
theorem fp_X4_38 {ks : Nat} {y : MethodName} (hy : y.cls = RX4) (x : Int32) : ev_fp ks y 38 4 9 (.int x) := ⟨_, rfl, by decide, rfl, rfl, Or.inl ⟨rfl, by rw [hy]; exact Or.inl (dp_m 66 (by decide +kernel) rfl)⟩⟩
theorem fp_X10_9 {ks : Nat} {y : MethodName} (hy : y.cls = RX10) (hn : y.name = "<init>") (hk : 0 < ks) (a : Nat) : ev_fp ks y 9 10 0 (.ref a) := ⟨_, rfl, by decide, rfl, rfl, Or.inr ⟨rfl, hk, hn, hy.symm, by rw [hy]; exact (dp_m 103 (by decide +kernel) rfl)⟩⟩
theorem fp_X7_12 {ks : Nat} {y : MethodName} (hy : y.cls = RX7) (hn : y.name = "<init>") (hk : 0 < ks) (a : Nat) : ev_fp ks y 12 7 0 (.ref a) := ⟨_, rfl, by decide, rfl, rfl, Or.inr ⟨rfl, hk, hn, hy.symm, by rw [hy]; exact (dp_m 121 (by decide +kernel) rfl)⟩⟩
theorem fp_X7_18 {ks : Nat} {y : MethodName} (hy : y.cls = RX7) (hn : y.name = "<init>") (hk : 0 < ks) (a : Nat) : ev_fp ks y 18 7 1 (.ref a) := ⟨_, rfl, by decide, rfl, rfl, Or.inr ⟨rfl, hk, hn, hy.symm, by rw [hy]; exact (dp_m 123 (by decide +kernel) rfl)⟩⟩
theorem fp_X7_21 {ks : Nat} {y : MethodName} (hy : y.cls = RX7) (hn : y.name = "<init>") (hk : 0 < ks) (a : Nat) : ev_fp ks y 21 7 2 (.ref a) := ⟨_, rfl, by decide, rfl, rfl, Or.inr ⟨rfl, hk, hn, hy.symm, by rw [hy]; exact (dp_m 125 (by decide +kernel) rfl)⟩⟩
theorem fp_X7_24 {ks : Nat} {y : MethodName} (hy : y.cls = RX7) (hn : y.name = "<init>") (hk : 0 < ks) (a : Nat) : ev_fp ks y 24 7 3 (.ref a) := ⟨_, rfl, by decide, rfl, rfl, Or.inr ⟨rfl, hk, hn, hy.symm, by rw [hy]; exact (dp_m 127 (by decide +kernel) rfl)⟩⟩
theorem fp_X7_27 {ks : Nat} {y : MethodName} (hy : y.cls = RX7) (hn : y.name = "<init>") (hk : 0 < ks) (a : Nat) : ev_fp ks y 27 7 4 (.ref a) := ⟨_, rfl, by decide, rfl, rfl, Or.inr ⟨rfl, hk, hn, hy.symm, by rw [hy]; exact (dp_m 129 (by decide +kernel) rfl)⟩⟩
theorem fp_X7_33 {ks : Nat} {y : MethodName} (hy : y.cls = RX7) (x : Int32) : ev_fp ks y 33 7 5 (.int x) := ⟨_, rfl, by decide, rfl, rfl, Or.inl ⟨rfl, by rw [hy]; exact Or.inl (dp_m 130 (by decide +kernel) rfl)⟩⟩
theorem fp_X7_37 {ks : Nat} {y : MethodName} (hy : y.cls = RX7) (x : Int32) : ev_fp ks y 37 7 6 (.int x) := ⟨_, rfl, by decide, rfl, rfl, Or.inl ⟨rfl, by rw [hy]; exact Or.inl (dp_m 131 (by decide +kernel) rfl)⟩⟩
theorem fp_X7_70 {ks : Nat} {y : MethodName} (hy : y.cls = RX7) (x : Int32) (hx : x = 0 ∨ x = 1) : ev_fp ks y 70 7 7 (.int x) := ⟨_, rfl, by decide, by rcases hx with rfl | rfl <;> rfl, by rcases hx with rfl | rfl <;> rfl, Or.inl ⟨rfl, by rw [hy]; exact Or.inl (dp_m 132 (by decide +kernel) rfl)⟩⟩
theorem fp_X7_97 {ks : Nat} {y : MethodName} (hy : y.cls = RX7) (x : Int32) : ev_fp ks y 97 7 8 (.int x) := ⟨_, rfl, by decide, rfl, rfl, Or.inl ⟨rfl, by rw [hy]; exact Or.inl (dp_m 133 (by decide +kernel) rfl)⟩⟩
theorem fp_X0_11 {ks : Nat} {y : MethodName} (hy : y.cls = RX0) (hn : y.name = "<init>") (hk : 0 < ks) (a : Nat) : ev_fp ks y 11 0 0 (.ref a) := ⟨_, rfl, by decide, rfl, rfl, Or.inr ⟨rfl, hk, hn, hy.symm, by rw [hy]; exact (dp_m 162 (by decide +kernel) rfl)⟩⟩
theorem fp_X0_17 {ks : Nat} {y : MethodName} (hy : y.cls = RX0) (hn : y.name = "<init>") (hk : 0 < ks) (a : Nat) : ev_fp ks y 17 0 1 (.ref a) := ⟨_, rfl, by decide, rfl, rfl, Or.inr ⟨rfl, hk, hn, hy.symm, by rw [hy]; exact (dp_m 163 (by decide +kernel) rfl)⟩⟩
theorem fp_X0_27 {ks : Nat} {y : MethodName} (hy : y.cls = RX0) (x : Int32) : ev_fp ks y 27 0 2 (.int x) := ⟨_, rfl, by decide, rfl, rfl, Or.inl ⟨rfl, by rw [hy]; exact Or.inl (dp_m 164 (by decide +kernel) rfl)⟩⟩
theorem fp_X0_37 {ks : Nat} {y : MethodName} (hy : y.cls = RX0) (x : Int32) (hx : x = 0 ∨ x = 1) : ev_fp ks y 37 0 3 (.int x) := ⟨_, rfl, by decide, by rcases hx with rfl | rfl <;> rfl, by rcases hx with rfl | rfl <;> rfl, Or.inl ⟨rfl, by rw [hy]; exact Or.inl (dp_m 165 (by decide +kernel) rfl)⟩⟩
theorem fp_X0_41 {ks : Nat} {y : MethodName} (hy : y.cls = RX0) (x : Int32) : ev_fp ks y 41 0 4 (.int x) := ⟨_, rfl, by decide, rfl, rfl, Or.inl ⟨rfl, by rw [hy]; exact Or.inl (dp_m 166 (by decide +kernel) rfl)⟩⟩
theorem fp_X0_44 {ks : Nat} {y : MethodName} (hy : y.cls = RX0) (x : Int32) : ev_fp ks y 44 0 5 (.int x) := ⟨_, rfl, by decide, rfl, rfl, Or.inl ⟨rfl, by rw [hy]; exact Or.inl (dp_m 167 (by decide +kernel) rfl)⟩⟩
theorem fp_X9_7 {ks : Nat} {y : MethodName} (hy : y.cls = RX9) (x : Int64) : ev_fp ks y 7 9 0 (.long x) := ⟨_, rfl, by decide, rfl, rfl, Or.inl ⟨rfl, by rw [hy]; exact Or.inl (dp_m 189 (by decide +kernel) rfl)⟩⟩
theorem fp_X3_11 {ks : Nat} {y : MethodName} (hy : y.cls = RX3) (hn : y.name = "<init>") (hk : 0 < ks) (a : Nat) : ev_fp ks y 11 3 0 (.ref a) := ⟨_, rfl, by decide, rfl, rfl, Or.inr ⟨rfl, hk, hn, hy.symm, by rw [hy]; exact (dp_m 228 (by decide +kernel) rfl)⟩⟩
theorem fp_X3_28 {ks : Nat} {y : MethodName} (hy : y.cls = RX3) (x : Int32) : ev_fp ks y 28 3 1 (.int x) := ⟨_, rfl, by decide, rfl, rfl, Or.inl ⟨rfl, by rw [hy]; exact Or.inl (dp_m 229 (by decide +kernel) rfl)⟩⟩
theorem fp_X3_31 {ks : Nat} {y : MethodName} (hy : y.cls = RX3) (x : Int32) : ev_fp ks y 31 3 2 (.int x) := ⟨_, rfl, by decide, rfl, rfl, Or.inl ⟨rfl, by rw [hy]; exact Or.inl (dp_m 230 (by decide +kernel) rfl)⟩⟩
theorem fp_X3_34 {ks : Nat} {y : MethodName} (hy : y.cls = RX3) (x : Int32) : ev_fp ks y 34 3 3 (.int x) := ⟨_, rfl, by decide, rfl, rfl, Or.inl ⟨rfl, by rw [hy]; exact Or.inl (dp_m 231 (by decide +kernel) rfl)⟩⟩
theorem fp_X7_46 {ks : Nat} {y : MethodName} (hy : y.cls = RX7) (x : Int32) : ev_fp ks y 46 3 3 (.int x) := ⟨_, rfl, by decide, rfl, rfl, Or.inl ⟨rfl, by rw [hy]; exact Or.inl (dp_m 232 (by decide +kernel) rfl)⟩⟩
theorem fp_X3_17 {ks : Nat} {y : MethodName} (hy : y.cls = RX3) (x : Int32) : ev_fp ks y 17 3 4 (.int x) := ⟨_, rfl, by decide, rfl, rfl, Or.inl ⟨rfl, by rw [hy]; exact Or.inl (dp_m 233 (by decide +kernel) rfl)⟩⟩
theorem fp_X11_295 {ks : Nat} {y : MethodName} (hy : y.cls = RX11) (x : Int32) : ev_fp ks y 295 3 4 (.int x) := ⟨_, rfl, by decide, rfl, rfl, Or.inl ⟨rfl, by rw [hy]; exact Or.inl (dp_m 234 (by decide +kernel) rfl)⟩⟩
theorem fp_X3_21 {ks : Nat} {y : MethodName} (hy : y.cls = RX3) (x : Int32) : ev_fp ks y 21 3 5 (.int x) := ⟨_, rfl, by decide, rfl, rfl, Or.inl ⟨rfl, by rw [hy]; exact Or.inl (dp_m 235 (by decide +kernel) rfl)⟩⟩
theorem fp_X11_298 {ks : Nat} {y : MethodName} (hy : y.cls = RX11) (x : Int32) : ev_fp ks y 298 3 5 (.int x) := ⟨_, rfl, by decide, rfl, rfl, Or.inl ⟨rfl, by rw [hy]; exact Or.inl (dp_m 236 (by decide +kernel) rfl)⟩⟩
theorem fp_X3_24 {ks : Nat} {y : MethodName} (hy : y.cls = RX3) (x : Int32) : ev_fp ks y 24 3 6 (.int x) := ⟨_, rfl, by decide, rfl, rfl, Or.inl ⟨rfl, by rw [hy]; exact Or.inl (dp_m 237 (by decide +kernel) rfl)⟩⟩
theorem fp_X11_12 {ks : Nat} {y : MethodName} (hy : y.cls = RX11) (hn : y.name = "<init>") (hk : 0 < ks) (a : Nat) : ev_fp ks y 12 11 0 (.ref a) := ⟨_, rfl, by decide, rfl, rfl, Or.inr ⟨rfl, hk, hn, hy.symm, by rw [hy]; exact (dp_m 253 (by decide +kernel) rfl)⟩⟩
theorem fp_X11_19 {ks : Nat} {y : MethodName} (hy : y.cls = RX11) (hn : y.name = "<init>") (hk : 0 < ks) (a : Nat) : ev_fp ks y 19 11 1 (.ref a) := ⟨_, rfl, by decide, rfl, rfl, Or.inr ⟨rfl, hk, hn, hy.symm, by rw [hy]; exact (dp_m 254 (by decide +kernel) rfl)⟩⟩
theorem fp_X11_25 {ks : Nat} {y : MethodName} (hy : y.cls = RX11) (hn : y.name = "<init>") (hk : 0 < ks) (a : Nat) : ev_fp ks y 25 11 2 (.ref a) := ⟨_, rfl, by decide, rfl, rfl, Or.inr ⟨rfl, hk, hn, hy.symm, by rw [hy]; exact (dp_m 255 (by decide +kernel) rfl)⟩⟩
theorem fp_X11_32 {ks : Nat} {y : MethodName} (hy : y.cls = RX11) (hn : y.name = "<init>") (hk : 0 < ks) (a : Nat) : ev_fp ks y 32 11 3 (.ref a) := ⟨_, rfl, by decide, rfl, rfl, Or.inr ⟨rfl, hk, hn, hy.symm, by rw [hy]; exact (dp_m 256 (by decide +kernel) rfl)⟩⟩
theorem fp_X11_39 {ks : Nat} {y : MethodName} (hy : y.cls = RX11) (hn : y.name = "<init>") (hk : 0 < ks) (a : Nat) : ev_fp ks y 39 11 4 (.ref a) := ⟨_, rfl, by decide, rfl, rfl, Or.inr ⟨rfl, hk, hn, hy.symm, by rw [hy]; exact (dp_m 257 (by decide +kernel) rfl)⟩⟩
theorem fp_X11_46 {ks : Nat} {y : MethodName} (hy : y.cls = RX11) (hn : y.name = "<init>") (hk : 0 < ks) (a : Nat) : ev_fp ks y 46 11 5 (.ref a) := ⟨_, rfl, by decide, rfl, rfl, Or.inr ⟨rfl, hk, hn, hy.symm, by rw [hy]; exact (dp_m 258 (by decide +kernel) rfl)⟩⟩
theorem fp_X11_53 {ks : Nat} {y : MethodName} (hy : y.cls = RX11) (hn : y.name = "<init>") (hk : 0 < ks) (a : Nat) : ev_fp ks y 53 11 6 (.ref a) := ⟨_, rfl, by decide, rfl, rfl, Or.inr ⟨rfl, hk, hn, hy.symm, by rw [hy]; exact (dp_m 259 (by decide +kernel) rfl)⟩⟩
theorem fp_X11_60 {ks : Nat} {y : MethodName} (hy : y.cls = RX11) (hn : y.name = "<init>") (hk : 0 < ks) (a : Nat) : ev_fp ks y 60 11 7 (.ref a) := ⟨_, rfl, by decide, rfl, rfl, Or.inr ⟨rfl, hk, hn, hy.symm, by rw [hy]; exact (dp_m 260 (by decide +kernel) rfl)⟩⟩
theorem fp_X11_67 {ks : Nat} {y : MethodName} (hy : y.cls = RX11) (hn : y.name = "<init>") (hk : 0 < ks) (a : Nat) : ev_fp ks y 67 11 8 (.ref a) := ⟨_, rfl, by decide, rfl, rfl, Or.inr ⟨rfl, hk, hn, hy.symm, by rw [hy]; exact (dp_m 261 (by decide +kernel) rfl)⟩⟩
theorem fp_X11_73 {ks : Nat} {y : MethodName} (hy : y.cls = RX11) (hn : y.name = "<init>") (hk : 0 < ks) (a : Nat) : ev_fp ks y 73 11 9 (.ref a) := ⟨_, rfl, by decide, rfl, rfl, Or.inr ⟨rfl, hk, hn, hy.symm, by rw [hy]; exact (dp_m 262 (by decide +kernel) rfl)⟩⟩
theorem fp_X11_79 {ks : Nat} {y : MethodName} (hy : y.cls = RX11) (hn : y.name = "<init>") (hk : 0 < ks) (a : Nat) : ev_fp ks y 79 11 10 (.ref a) := ⟨_, rfl, by decide, rfl, rfl, Or.inr ⟨rfl, hk, hn, hy.symm, by rw [hy]; exact (dp_m 263 (by decide +kernel) rfl)⟩⟩
theorem fp_X11_108 {ks : Nat} {y : MethodName} (hy : y.cls = RX11) (x : Int32) : ev_fp ks y 108 11 11 (.int x) := ⟨_, rfl, by decide, rfl, rfl, Or.inl ⟨rfl, by rw [hy]; exact Or.inl (dp_m 264 (by decide +kernel) rfl)⟩⟩
theorem fp_X11_118 {ks : Nat} {y : MethodName} (hy : y.cls = RX11) (x : Int32) : ev_fp ks y 118 11 12 (.int x) := ⟨_, rfl, by decide, rfl, rfl, Or.inl ⟨rfl, by rw [hy]; exact Or.inl (dp_m 265 (by decide +kernel) rfl)⟩⟩
theorem fp_X11_211 {ks : Nat} {y : MethodName} (hy : y.cls = RX11) (x : Int32) : ev_fp ks y 211 11 13 (.int x) := ⟨_, rfl, by decide, rfl, rfl, Or.inl ⟨rfl, by rw [hy]; exact Or.inl (dp_m 266 (by decide +kernel) rfl)⟩⟩
theorem fp_X11_82 {ks : Nat} {y : MethodName} (hy : y.cls = RX11) (x : Int32) : ev_fp ks y 82 11 14 (.int x) := ⟨_, rfl, by decide, rfl, rfl, Or.inl ⟨rfl, by rw [hy]; exact Or.inl (dp_m 267 (by decide +kernel) rfl)⟩⟩
theorem fp_X11_86 {ks : Nat} {y : MethodName} (hy : y.cls = RX11) (x : Int32) : ev_fp ks y 86 11 15 (.int x) := ⟨_, rfl, by decide, rfl, rfl, Or.inl ⟨rfl, by rw [hy]; exact Or.inl (dp_m 268 (by decide +kernel) rfl)⟩⟩
theorem fp_X12_57 {ks : Nat} {y : MethodName} (hy : y.cls = RX12) (x : Int32) : ev_fp ks y 57 12 0 (.int x) := ⟨_, rfl, by decide, rfl, rfl, Or.inl ⟨rfl, by rw [hy]; exact Or.inl (dp_m 834 (by decide +kernel) rfl)⟩⟩
theorem fp_X12_183 {ks : Nat} {y : MethodName} (hy : y.cls = RX12) (x : Int64) : ev_fp ks y 183 12 1 (.long x) := ⟨_, rfl, by decide, rfl, rfl, Or.inl ⟨rfl, by rw [hy]; exact Or.inl (dp_m 835 (by decide +kernel) rfl)⟩⟩
theorem fp_X12_7 {ks : Nat} {y : MethodName} (hy : y.cls = RX12) (hn : y.name = "<init>") (hk : 0 < ks) (a : Nat) : ev_fp ks y 7 12 2 (.ref a) := ⟨_, rfl, by decide, rfl, rfl, Or.inr ⟨rfl, hk, hn, hy.symm, by rw [hy]; exact (dp_m 836 (by decide +kernel) rfl)⟩⟩
theorem fp_X12_64 {ks : Nat} {y : MethodName} (hy : y.cls = RX12) (x : Int32) : ev_fp ks y 64 12 3 (.int x) := ⟨_, rfl, by decide, rfl, rfl, Or.inl ⟨rfl, by rw [hy]; exact Or.inl (dp_m 837 (by decide +kernel) rfl)⟩⟩
theorem fp_X12_82 {ks : Nat} {y : MethodName} (hy : y.cls = RX12) (x : Int32) : ev_fp ks y 82 12 4 (.int x) := ⟨_, rfl, by decide, rfl, rfl, Or.inl ⟨rfl, by rw [hy]; exact Or.inl (dp_m 838 (by decide +kernel) rfl)⟩⟩
theorem fp_X12_76 {ks : Nat} {y : MethodName} (hy : y.cls = RX12) (x : Int32) : ev_fp ks y 76 12 5 (.int x) := ⟨_, rfl, by decide, rfl, rfl, Or.inl ⟨rfl, by rw [hy]; exact Or.inl (dp_m 839 (by decide +kernel) rfl)⟩⟩
theorem fp_X12_69 {ks : Nat} {y : MethodName} (hy : y.cls = RX12) (x : Int32) : ev_fp ks y 69 12 6 (.int x) := ⟨_, rfl, by decide, rfl, rfl, Or.inl ⟨rfl, by rw [hy]; exact Or.inl (dp_m 840 (by decide +kernel) rfl)⟩⟩
theorem fp_X12_79 {ks : Nat} {y : MethodName} (hy : y.cls = RX12) (x : Int32) : ev_fp ks y 79 12 7 (.int x) := ⟨_, rfl, by decide, rfl, rfl, Or.inl ⟨rfl, by rw [hy]; exact Or.inl (dp_m 841 (by decide +kernel) rfl)⟩⟩
theorem fp_X12_89 {ks : Nat} {y : MethodName} (hy : y.cls = RX12) (x : Int32) : ev_fp ks y 89 12 8 (.int x) := ⟨_, rfl, by decide, rfl, rfl, Or.inl ⟨rfl, by rw [hy]; exact Or.inl (dp_m 842 (by decide +kernel) rfl)⟩⟩
theorem fp_X12_112 {ks : Nat} {y : MethodName} (hy : y.cls = RX12) (x : Int32) : ev_fp ks y 112 12 9 (.int x) := ⟨_, rfl, by decide, rfl, rfl, Or.inl ⟨rfl, by rw [hy]; exact Or.inl (dp_m 843 (by decide +kernel) rfl)⟩⟩
theorem fp_X12_115 {ks : Nat} {y : MethodName} (hy : y.cls = RX12) (x : Int32) : ev_fp ks y 115 12 10 (.int x) := ⟨_, rfl, by decide, rfl, rfl, Or.inl ⟨rfl, by rw [hy]; exact Or.inl (dp_m 844 (by decide +kernel) rfl)⟩⟩
theorem fp_X12_118 {ks : Nat} {y : MethodName} (hy : y.cls = RX12) (x : Int32) : ev_fp ks y 118 12 11 (.int x) := ⟨_, rfl, by decide, rfl, rfl, Or.inl ⟨rfl, by rw [hy]; exact Or.inl (dp_m 845 (by decide +kernel) rfl)⟩⟩
theorem fp_X12_13 {ks : Nat} {y : MethodName} (hy : y.cls = RX12) (x : Int32) : ev_fp ks y 13 12 12 (.int x) := ⟨_, rfl, by decide, rfl, rfl, Or.inl ⟨rfl, by rw [hy]; exact Or.inl (dp_m 846 (by decide +kernel) rfl)⟩⟩
theorem fp_X12_17 {ks : Nat} {y : MethodName} (hy : y.cls = RX12) (hn : y.name = "<init>") (hk : 0 < ks) (a : Nat) : ev_fp ks y 17 12 13 (.ref a) := ⟨_, rfl, by decide, rfl, rfl, Or.inr ⟨rfl, hk, hn, hy.symm, by rw [hy]; exact (dp_m 847 (by decide +kernel) rfl)⟩⟩
theorem fp_X12_20 {ks : Nat} {y : MethodName} (hy : y.cls = RX12) (hn : y.name = "<init>") (hk : 0 < ks) (a : Nat) : ev_fp ks y 20 12 14 (.ref a) := ⟨_, rfl, by decide, rfl, rfl, Or.inr ⟨rfl, hk, hn, hy.symm, by rw [hy]; exact (dp_m 848 (by decide +kernel) rfl)⟩⟩
theorem fp_X12_23 {ks : Nat} {y : MethodName} (hy : y.cls = RX12) (hn : y.name = "<init>") (hk : 0 < ks) (a : Nat) : ev_fp ks y 23 12 15 (.ref a) := ⟨_, rfl, by decide, rfl, rfl, Or.inr ⟨rfl, hk, hn, hy.symm, by rw [hy]; exact (dp_m 849 (by decide +kernel) rfl)⟩⟩
theorem fp_X12_26 {ks : Nat} {y : MethodName} (hy : y.cls = RX12) (hn : y.name = "<init>") (hk : 0 < ks) (a : Nat) : ev_fp ks y 26 12 16 (.ref a) := ⟨_, rfl, by decide, rfl, rfl, Or.inr ⟨rfl, hk, hn, hy.symm, by rw [hy]; exact (dp_m 850 (by decide +kernel) rfl)⟩⟩
theorem fp_X12_30 {ks : Nat} {y : MethodName} (hy : y.cls = RX12) (hn : y.name = "<init>") (hk : 0 < ks) (a : Nat) : ev_fp ks y 30 12 17 (.ref a) := ⟨_, rfl, by decide, rfl, rfl, Or.inr ⟨rfl, hk, hn, hy.symm, by rw [hy]; exact (dp_m 851 (by decide +kernel) rfl)⟩⟩
theorem fp_X12_33 {ks : Nat} {y : MethodName} (hy : y.cls = RX12) (hn : y.name = "<init>") (hk : 0 < ks) (a : Nat) : ev_fp ks y 33 12 18 (.ref a) := ⟨_, rfl, by decide, rfl, rfl, Or.inr ⟨rfl, hk, hn, hy.symm, by rw [hy]; exact (dp_m 852 (by decide +kernel) rfl)⟩⟩
theorem fp_X12_36 {ks : Nat} {y : MethodName} (hy : y.cls = RX12) (hn : y.name = "<init>") (hk : 0 < ks) (a : Nat) : ev_fp ks y 36 12 19 (.ref a) := ⟨_, rfl, by decide, rfl, rfl, Or.inr ⟨rfl, hk, hn, hy.symm, by rw [hy]; exact (dp_m 853 (by decide +kernel) rfl)⟩⟩
theorem fp_X12_39 {ks : Nat} {y : MethodName} (hy : y.cls = RX12) (hn : y.name = "<init>") (hk : 0 < ks) (a : Nat) : ev_fp ks y 39 12 20 (.ref a) := ⟨_, rfl, by decide, rfl, rfl, Or.inr ⟨rfl, hk, hn, hy.symm, by rw [hy]; exact (dp_m 854 (by decide +kernel) rfl)⟩⟩
theorem fp_X12_42 {ks : Nat} {y : MethodName} (hy : y.cls = RX12) (hn : y.name = "<init>") (hk : 0 < ks) (a : Nat) : ev_fp ks y 42 12 21 (.ref a) := ⟨_, rfl, by decide, rfl, rfl, Or.inr ⟨rfl, hk, hn, hy.symm, by rw [hy]; exact (dp_m 855 (by decide +kernel) rfl)⟩⟩
theorem fp_X12_45 {ks : Nat} {y : MethodName} (hy : y.cls = RX12) (hn : y.name = "<init>") (hk : 0 < ks) (a : Nat) : ev_fp ks y 45 12 22 (.ref a) := ⟨_, rfl, by decide, rfl, rfl, Or.inr ⟨rfl, hk, hn, hy.symm, by rw [hy]; exact (dp_m 856 (by decide +kernel) rfl)⟩⟩
theorem fp_X12_48 {ks : Nat} {y : MethodName} (hy : y.cls = RX12) (hn : y.name = "<init>") (hk : 0 < ks) (a : Nat) : ev_fp ks y 48 12 23 (.ref a) := ⟨_, rfl, by decide, rfl, rfl, Or.inr ⟨rfl, hk, hn, hy.symm, by rw [hy]; exact (dp_m 857 (by decide +kernel) rfl)⟩⟩
theorem fp_X12_51 {ks : Nat} {y : MethodName} (hy : y.cls = RX12) (hn : y.name = "<init>") (hk : 0 < ks) (a : Nat) : ev_fp ks y 51 12 24 (.ref a) := ⟨_, rfl, by decide, rfl, rfl, Or.inr ⟨rfl, hk, hn, hy.symm, by rw [hy]; exact (dp_m 858 (by decide +kernel) rfl)⟩⟩
