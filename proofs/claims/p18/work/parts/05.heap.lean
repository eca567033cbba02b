def ev_fl (cls : String) (idx ci k : Nat) : Prop := ∃ q : vw_C, dp_cl[ci]? = some q ∧ k < q.2.2 ∧ (Cond.fieldLink cls idx (q.2.1 k).1 (q.2.1 k).2.1 (q.2.1 k).2.2.1 ∈ dp_tb ∨ ∃ host, Cond.fieldLinkNest cls idx (q.2.1 k).1 (q.2.1 k).2.1 (q.2.1 k).2.2.1 host ∈ dp_nb)
def ev_fp (ks : Nat) (y : MethodName) (idx ci k : Nat) (v : Value) : Prop := ∃ q : vw_C, dp_cl[ci]? = some q ∧ k < q.2.2 ∧ narrow (dp_ty ci k) v = v ∧ fits (dp_ty ci k) v = true ∧
  (((q.2.1 k).2.2.2 = false ∧ (Cond.fieldLink y.cls idx (q.2.1 k).1 (q.2.1 k).2.1 (q.2.1 k).2.2.1 ∈ dp_tb ∨ ∃ host, Cond.fieldLinkNest y.cls idx (q.2.1 k).1 (q.2.1 k).2.1 (q.2.1 k).2.2.1 host ∈ dp_nb)) ∨
   ((q.2.1 k).2.2.2 = true ∧ 0 < ks ∧ y.name = "<init>" ∧ (q.2.1 k).1 = y.cls ∧ Cond.fieldLink y.cls idx (q.2.1 k).1 (q.2.1 k).2.1 (q.2.1 k).2.2.1 ∈ dp_tb))
def ev_cs (st : List Value) : Nat := (st.map fun v => v.category).sum
/-- the kinds of new arrays of numbers: type, tag -/
def ev_at (t : ArrayType) : Option (Nat × vp_A) := match t with
  | .int => some (0, 0, .inl (fun _ => 0))
  | .long => some (1, 0, .inr (.inl (fun _ => 0)))
  | .byte => some (2, 0, .inl (fun _ => 0))
  | _ => none
/-- instructions that read or write cells, or link -/
def ev_hp (xs : Nat → Int32) (L d : Nat) (M : ev_M) (i : Instr) (kc ks sz : Nat) (h : ev_H) (st : List Value) (K : Nat → Nat → Nat → ev_H → Nat → List Value → Prop) : Prop := match i with
  | .getfield idx => ∃ a r ci fs k v, st = .ref a :: r ∧ 2 ≤ a ∧ a < sz ∧ h a = .inr (ci, fs) ∧ ev_fl M.1.cls idx ci k ∧ fs[k]? = some v ∧ K kc ks sz h 3 (v :: r)
  | .putfield idx => ∃ a r ci fs k v, st = v :: .ref a :: r ∧ 2 ≤ a ∧ a < sz ∧ h a = .inr (ci, fs) ∧ ev_fp ks M.1 idx ci k v ∧ k < fs.length ∧ K kc ks sz (va_up h a (.inr (ci, fs.set k v))) 3 r
  | .iaload => ∃ a r j, st = .int j :: .ref a :: r ∧ ((∃ n f, 2 ≤ a ∧ a < sz ∧ h a = .inl (0, n, .inl f) ∧ vp_in j n ∧ K kc ks sz h 1 (.int (f j.toNatClampNeg) :: r)) ∨ (a = 0 ∧ vp_in j L ∧ K kc ks sz h 1 (.int (xs j.toNatClampNeg) :: r)))
  | .laload => ∃ a r j, st = .int j :: .ref a :: r ∧ ((∃ n f, 2 ≤ a ∧ a < sz ∧ h a = .inl (1, n, .inr (.inl f)) ∧ vp_in j n ∧ K kc ks sz h 1 (.long (f j.toNatClampNeg) :: r)) ∨ (a = 1 ∧ vp_in j 6 ∧ K kc ks sz h 1 (.long (ev_so j.toNatClampNeg) :: r)))
  | .baload => ∃ a r j n f, st = .int j :: .ref a :: r ∧ 2 ≤ a ∧ a < sz ∧ h a = .inl (2, n, .inl f) ∧ vp_in j n ∧ K kc ks sz h 1 (.int (f j.toNatClampNeg) :: r)
  | .aaload => ∃ a r j t n f, st = .int j :: .ref a :: r ∧ 2 ≤ a ∧ a < sz ∧ h a = .inl (t, n, .inr (.inr (.inr (.inr f)))) ∧ (t = 3 ∨ t = 4) ∧ vp_in j n ∧ K kc ks sz h 1 (va_rf (f j.toNatClampNeg) :: r)
  | .iastore => ∃ a r j x n f, st = .int x :: .int j :: .ref a :: r ∧ 2 ≤ a ∧ a < sz ∧ h a = .inl (0, n, .inl f) ∧ vp_in j n ∧ K kc ks sz (va_up h a (.inl (0, n, .inl (upd f j.toNatClampNeg x)))) 1 r
  | .lastore => ∃ a r j x n f, st = .long x :: .int j :: .ref a :: r ∧ 2 ≤ a ∧ a < sz ∧ h a = .inl (1, n, .inr (.inl f)) ∧ vp_in j n ∧ K kc ks sz (va_up h a (.inl (1, n, .inr (.inl (vp_updL f j.toNatClampNeg x))))) 1 r
  | .bastore => ∃ a r j x n f, st = .int x :: .int j :: .ref a :: r ∧ 2 ≤ a ∧ a < sz ∧ h a = .inl (2, n, .inl f) ∧ vp_in j n ∧ K kc ks sz (va_up h a (.inl (2, n, .inl (upd f j.toNatClampNeg (vp_nar .byte x))))) 1 r
  | .aastore => ∃ a r j v t n f ci fs q, st = .ref v :: .int j :: .ref a :: r ∧ 2 ≤ a ∧ a < sz ∧ 2 ≤ v ∧ v < sz ∧ h a = .inl (t, n, .inr (.inr (.inr (.inr f)))) ∧ h v = .inr (ci, fs) ∧ dp_cl[ci]? = some q ∧ (t = 3 ∧ q.1 = RX10 ∨ t = 4 ∧ q.1 = RX3) ∧ 0 < ks ∧ vp_in j n ∧ K kc ks sz (va_up h a (.inl (t, n, .inr (.inr (.inr (.inr (va_up f j.toNatClampNeg (some v)))))))) 1 r
  | .arraylength => ∃ a r, st = .ref a :: r ∧ ((∃ t x, 2 ≤ a ∧ a < sz ∧ h a = .inl (t, x) ∧ t < 5 ∧ K kc ks sz h 1 (.int (Int32.ofNat x.1) :: r)) ∨ (a = 0 ∧ K kc ks sz h 1 (.int (Int32.ofNat L) :: r)) ∨ (a = 1 ∧ K kc ks sz h 1 (.int 6 :: r)))
  | .newarray ty => ∃ r n N t x kc' ks', st = .int n :: r ∧ ¬ n < 0 ∧ n.toNatClampNeg = N ∧ N ≤ 65536 ∧ ev_at ty = some (t, x) ∧ Cond.arrayClass (newarray.typeOf ty) ∈ dp_tb ∧ kc = kc' + 1 ∧ ks = ks' + N ∧ K kc' ks' (sz + 1) (va_up h sz (.inl (t, N, x.2))) 2 (.ref sz :: r)
  | .anewarray idx => ∃ r n N t C kc' ks', st = .int n :: r ∧ ¬ n < 0 ∧ n.toNatClampNeg = N ∧ N ≤ 65536 ∧ (t = 3 ∧ C = RX10 ∨ t = 4 ∧ C = RX3) ∧ Cond.classLink M.1.cls idx C ∈ dp_tb ∧ Cond.arrayOver (.object C) ∈ dp_nb ∧ kc = kc' + 1 ∧ ks = ks' + N ∧ K kc' ks' (sz + 1) (va_up h sz (.inl (t, N, .inr (.inr (.inr (.inr (fun _ => none))))))) 3 (.ref sz :: r)
  | .new idx => ∃ ci q fs kc' ks', dp_cl[ci]? = some q ∧ Cond.classLink M.1.cls idx q.1 ∈ dp_tb ∧ Cond.instantiable q.1 q.2.2 ∈ dp_tb ∧ Cond.initialized q.1 ∈ dp_tb ∧ fs = (List.range q.2.2).map (fun j => defaultValue (dp_ty ci j)) ∧ kc = kc' + 1 ∧ ks = ks' + q.2.2 ∧ K kc' ks' (sz + 1) (va_up h sz (.inr (ci, fs))) 3 (.ref sz :: st)
  | .getstatic idx => Cond.fieldLink M.1.cls idx RX10 "SO" "[J" ∈ dp_tb ∧ K kc ks sz h 3 (.ref 1 :: st)
  | .ldc idx => ∃ v, Cond.constant M.1.cls idx v ∈ dp_tb ∧ K kc ks sz h 2 (.int v :: st)
  | .ldc_w idx => ∃ v, Cond.constant M.1.cls idx v ∈ dp_tb ∧ K kc ks sz h 3 (.int v :: st)
  | .ldc2_w idx => ∃ v, Cond.constantLong M.1.cls idx v ∈ dp_tb ∧ K kc ks sz h 3 (.long v :: st)
  | .invokespecial idx => ∃ a r, st = .ref a :: r ∧ 0 < d ∧ ev_cs r ≤ 8 ∧ Cond.methodLink M.1.cls idx objectInit ∈ dp_tb ∧ Cond.instanceMethod objectInit ∈ dp_tb ∧ Cond.code objectInit ⟨#[0xb1]⟩ 1 none ∈ dp_tb ∧ K kc ks sz h 3 r
  | .invokestatic idx => ∃ x y r, st = .int y :: .int x :: r ∧ 0 < d ∧ ev_cs r ≤ 8 ∧ Cond.methodLink M.1.cls idx Lib.Math.min.name ∈ dp_tb ∧ Cond.static Lib.Math.min.name ∈ dp_tb ∧ Cond.initialized "java/lang/Math" ∈ dp_tb ∧ Cond.code Lib.Math.min.name Lib.Math.min.code 2 (some .int) ∈ dp_tb ∧ K kc ks sz h 3 (.int (if y < x then y else x) :: r)
  | _ => False
