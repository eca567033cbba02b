section RR
variable {xs : Nat → Int32} {L d kc ks : Nat} {M : ev_M} {sz : Nat} {h : ev_H} {pc : Nat} {ls : ev_L} {st : List Value} {Q : ev_Q}
theorem r_pu {i : Instr} {len pc' : Nat} {ls' : ev_L} {st' : List Value} (hd : decode M.2.1 pc = .ok (i, len)) (hl : len = ev_ln i) (hp : ev_pu i pc ls st = some (pc', ls', st')) (k : EV xs L d kc ks M sz h pc' ls' st' Q) : EV xs L d kc ks M sz h pc ls st Q := EV.in ⟨i, len, hd, Or.inl ⟨hl, pc', ls', st', hp, k⟩⟩
theorem r_iconst {pc' : Nat} {n : Int} {v : Int32} (hp : pc + 1 = pc') (hd : decode M.2.1 pc = .ok (.iconst n, 1)) (hv : Int32.ofInt n = v) (k : EV xs L d kc ks M sz h pc' ls (.int v :: st) Q) : EV xs L d kc ks M sz h pc ls st Q := by
  subst hp
  exact r_pu hd rfl (by rw [← hv]; rfl) k
theorem r_bipush {pc' : Nat} {n : Int} {v : Int32} (hp : pc + 2 = pc') (hd : decode M.2.1 pc = .ok (.bipush n, 2)) (hv : (Int8.ofInt n).toInt32 = v) (k : EV xs L d kc ks M sz h pc' ls (.int v :: st) Q) : EV xs L d kc ks M sz h pc ls st Q := by
  subst hp
  exact r_pu hd rfl (by rw [← hv]; rfl) k
theorem r_sipush {pc' : Nat} {n : Int} {v : Int32} (hp : pc + 3 = pc') (hd : decode M.2.1 pc = .ok (.sipush n, 3)) (hv : (Int16.ofInt n).toInt32 = v) (k : EV xs L d kc ks M sz h pc' ls (.int v :: st) Q) : EV xs L d kc ks M sz h pc ls st Q := by
  subst hp
  exact r_pu hd rfl (by rw [← hv]; rfl) k
theorem r_lconst {pc' : Nat} {n : Fin 2} {v : Int64} (hp : pc + 1 = pc') (hd : decode M.2.1 pc = .ok (.lconst n, 1)) (hv : Int64.ofNat (n : Nat) = v) (k : EV xs L d kc ks M sz h pc' ls (.long v :: st) Q) : EV xs L d kc ks M sz h pc ls st Q := by
  subst hp
  exact r_pu hd rfl (by rw [← hv]; rfl) k
theorem r_null {pc' : Nat}  (hp : pc + 1 = pc') (hd : decode M.2.1 pc = .ok (.aconst_null, 1))  (k : EV xs L d kc ks M sz h pc' ls (.null :: st) Q) : EV xs L d kc ks M sz h pc ls st Q := by
  subst hp
  exact r_pu hd rfl (rfl) k
theorem r_iload_n {pc' : Nat} {n : Fin 4} {x : Int32} (hp : pc + 1 = pc') (hd : decode M.2.1 pc = .ok (.iload_n n, 1)) (hl : ls[(n : Nat)]? = some (some (.int x))) (k : EV xs L d kc ks M sz h pc' ls (.int x :: st) Q) : EV xs L d kc ks M sz h pc ls st Q := by
  subst hp
  exact r_pu hd rfl (by simp only [ev_pu, ev_ldi, hl, Option.map_some]) k
theorem r_iload {pc' : Nat} {n : Nat} {x : Int32} (hp : pc + 2 = pc') (hd : decode M.2.1 pc = .ok (.iload n, 2)) (hl : ls[(n : Nat)]? = some (some (.int x))) (k : EV xs L d kc ks M sz h pc' ls (.int x :: st) Q) : EV xs L d kc ks M sz h pc ls st Q := by
  subst hp
  exact r_pu hd rfl (by simp only [ev_pu, ev_ldi, hl, Option.map_some]) k
theorem r_lload_n {pc' : Nat} {n : Fin 4} {x : Int64} (hp : pc + 1 = pc') (hd : decode M.2.1 pc = .ok (.lload_n n, 1)) (hl : ls[(n : Nat)]? = some (some (.long x))) (k : EV xs L d kc ks M sz h pc' ls (.long x :: st) Q) : EV xs L d kc ks M sz h pc ls st Q := by
  subst hp
  exact r_pu hd rfl (by simp only [ev_pu, ev_ldl, hl, Option.map_some]) k
theorem r_lload {pc' : Nat} {n : Nat} {x : Int64} (hp : pc + 2 = pc') (hd : decode M.2.1 pc = .ok (.lload n, 2)) (hl : ls[(n : Nat)]? = some (some (.long x))) (k : EV xs L d kc ks M sz h pc' ls (.long x :: st) Q) : EV xs L d kc ks M sz h pc ls st Q := by
  subst hp
  exact r_pu hd rfl (by simp only [ev_pu, ev_ldl, hl, Option.map_some]) k
theorem r_aload_n {pc' : Nat} {n : Fin 4} {x : Nat} (hp : pc + 1 = pc') (hd : decode M.2.1 pc = .ok (.aload_n n, 1)) (hl : ls[(n : Nat)]? = some (some (.ref x))) (k : EV xs L d kc ks M sz h pc' ls (.ref x :: st) Q) : EV xs L d kc ks M sz h pc ls st Q := by
  subst hp
  exact r_pu hd rfl (by simp only [ev_pu, ev_lda, hl, Option.map_some]) k
theorem r_aload {pc' : Nat} {n : Nat} {x : Nat} (hp : pc + 2 = pc') (hd : decode M.2.1 pc = .ok (.aload n, 2)) (hl : ls[(n : Nat)]? = some (some (.ref x))) (k : EV xs L d kc ks M sz h pc' ls (.ref x :: st) Q) : EV xs L d kc ks M sz h pc ls st Q := by
  subst hp
  exact r_pu hd rfl (by simp only [ev_pu, ev_lda, hl, Option.map_some]) k
theorem r_aload_nN {pc' : Nat} {n : Fin 4} (hp : pc + 1 = pc') (hd : decode M.2.1 pc = .ok (.aload_n n, 1)) (hl : ls[(n : Nat)]? = some (some .null)) (k : EV xs L d kc ks M sz h pc' ls (.null :: st) Q) : EV xs L d kc ks M sz h pc ls st Q := by
  subst hp
  exact r_pu hd rfl (by simp only [ev_pu, ev_lda, hl, Option.map_some]) k
theorem r_aloadN {pc' : Nat} {n : Nat} (hp : pc + 2 = pc') (hd : decode M.2.1 pc = .ok (.aload n, 2)) (hl : ls[(n : Nat)]? = some (some .null)) (k : EV xs L d kc ks M sz h pc' ls (.null :: st) Q) : EV xs L d kc ks M sz h pc ls st Q := by
  subst hp
  exact r_pu hd rfl (by simp only [ev_pu, ev_lda, hl, Option.map_some]) k
theorem r_istore_n {pc' : Nat} {n : Fin 4} {x : Int32} {ls' : ev_L} (hp : pc + 1 = pc') (hd : decode M.2.1 pc = .ok (.istore_n n, 1)) (hn : (n : Nat) < ls.length) (hl : ev_s1 ls (n : Nat) (.int x) = ls') (k : EV xs L d kc ks M sz h pc' ls' st Q) : EV xs L d kc ks M sz h pc ls (.int x :: st) Q := by
  subst hp
  exact r_pu hd rfl (by simp only [ev_pu, ev_sti, hn, if_true, hl, Option.map_some]) k
theorem r_istore {pc' : Nat} {n : Nat} {x : Int32} {ls' : ev_L} (hp : pc + 2 = pc') (hd : decode M.2.1 pc = .ok (.istore n, 2)) (hn : (n : Nat) < ls.length) (hl : ev_s1 ls (n : Nat) (.int x) = ls') (k : EV xs L d kc ks M sz h pc' ls' st Q) : EV xs L d kc ks M sz h pc ls (.int x :: st) Q := by
  subst hp
  exact r_pu hd rfl (by simp only [ev_pu, ev_sti, hn, if_true, hl, Option.map_some]) k
theorem r_lstore_n {pc' : Nat} {n : Fin 4} {x : Int64} {ls' : ev_L} (hp : pc + 1 = pc') (hd : decode M.2.1 pc = .ok (.lstore_n n, 1)) (hn : (n : Nat) + 1 < ls.length) (hl : ev_s2 ls (n : Nat) (.long x) = ls') (k : EV xs L d kc ks M sz h pc' ls' st Q) : EV xs L d kc ks M sz h pc ls (.long x :: st) Q := by
  subst hp
  exact r_pu hd rfl (by simp only [ev_pu, ev_stl, hn, if_true, hl, Option.map_some]) k
theorem r_lstore {pc' : Nat} {n : Nat} {x : Int64} {ls' : ev_L} (hp : pc + 2 = pc') (hd : decode M.2.1 pc = .ok (.lstore n, 2)) (hn : (n : Nat) + 1 < ls.length) (hl : ev_s2 ls (n : Nat) (.long x) = ls') (k : EV xs L d kc ks M sz h pc' ls' st Q) : EV xs L d kc ks M sz h pc ls (.long x :: st) Q := by
  subst hp
  exact r_pu hd rfl (by simp only [ev_pu, ev_stl, hn, if_true, hl, Option.map_some]) k
theorem r_astore_n {pc' : Nat} {n : Fin 4} {x : Nat} {ls' : ev_L} (hp : pc + 1 = pc') (hd : decode M.2.1 pc = .ok (.astore_n n, 1)) (hn : (n : Nat) < ls.length) (hl : ev_s1 ls (n : Nat) (.ref x) = ls') (k : EV xs L d kc ks M sz h pc' ls' st Q) : EV xs L d kc ks M sz h pc ls (.ref x :: st) Q := by
  subst hp
  exact r_pu hd rfl (by simp only [ev_pu, ev_sta, hn, if_true, hl, Option.map_some]) k
theorem r_astore {pc' : Nat} {n : Nat} {x : Nat} {ls' : ev_L} (hp : pc + 2 = pc') (hd : decode M.2.1 pc = .ok (.astore n, 2)) (hn : (n : Nat) < ls.length) (hl : ev_s1 ls (n : Nat) (.ref x) = ls') (k : EV xs L d kc ks M sz h pc' ls' st Q) : EV xs L d kc ks M sz h pc ls (.ref x :: st) Q := by
  subst hp
  exact r_pu hd rfl (by simp only [ev_pu, ev_sta, hn, if_true, hl, Option.map_some]) k
theorem r_astore_nN {pc' : Nat} {n : Fin 4} {ls' : ev_L} (hp : pc + 1 = pc') (hd : decode M.2.1 pc = .ok (.astore_n n, 1)) (hn : (n : Nat) < ls.length) (hl : ev_s1 ls (n : Nat) .null = ls') (k : EV xs L d kc ks M sz h pc' ls' st Q) : EV xs L d kc ks M sz h pc ls (.null :: st) Q := by
  subst hp
  exact r_pu hd rfl (by simp only [ev_pu, ev_sta, hn, if_true, hl, Option.map_some]) k
theorem r_astoreN {pc' : Nat} {n : Nat} {ls' : ev_L} (hp : pc + 2 = pc') (hd : decode M.2.1 pc = .ok (.astore n, 2)) (hn : (n : Nat) < ls.length) (hl : ev_s1 ls (n : Nat) .null = ls') (k : EV xs L d kc ks M sz h pc' ls' st Q) : EV xs L d kc ks M sz h pc ls (.null :: st) Q := by
  subst hp
  exact r_pu hd rfl (by simp only [ev_pu, ev_sta, hn, if_true, hl, Option.map_some]) k
theorem r_iinc {pc' : Nat} {n : Nat} {w : Int} {x y : Int32} {ls' : ev_L} (hp : pc + 3 = pc') (hd : decode M.2.1 pc = .ok (.iinc n w, 3)) (hx : ls[n]? = some (some (.int x))) (hy : x + Int32.ofInt w = y) (hn : n < ls.length) (hl : ev_s1 ls n (.int y) = ls') (k : EV xs L d kc ks M sz h pc' ls' st Q) : EV xs L d kc ks M sz h pc ls st Q := by
  subst hp
  exact r_pu hd rfl (by simp only [ev_pu, ev_inc, hx, hn, if_true, hy, hl, Option.map_some]) k
theorem r_iadd {pc' : Nat} {x y : Int32} (hp : pc + 1 = pc') (hd : decode M.2.1 pc = .ok (.iadd, 1))  (k : EV xs L d kc ks M sz h pc' ls (.int (x + y) :: st) Q) : EV xs L d kc ks M sz h pc ls (.int y :: .int x :: st) Q := by
  subst hp
  exact r_pu hd rfl (rfl) k
theorem r_isub {pc' : Nat} {x y : Int32} (hp : pc + 1 = pc') (hd : decode M.2.1 pc = .ok (.isub, 1))  (k : EV xs L d kc ks M sz h pc' ls (.int (x - y) :: st) Q) : EV xs L d kc ks M sz h pc ls (.int y :: .int x :: st) Q := by
  subst hp
  exact r_pu hd rfl (rfl) k
theorem r_imul {pc' : Nat} {x y : Int32} (hp : pc + 1 = pc') (hd : decode M.2.1 pc = .ok (.imul, 1))  (k : EV xs L d kc ks M sz h pc' ls (.int (x * y) :: st) Q) : EV xs L d kc ks M sz h pc ls (.int y :: .int x :: st) Q := by
  subst hp
  exact r_pu hd rfl (rfl) k
theorem r_iand {pc' : Nat} {x y : Int32} (hp : pc + 1 = pc') (hd : decode M.2.1 pc = .ok (.iand, 1))  (k : EV xs L d kc ks M sz h pc' ls (.int (x &&& y) :: st) Q) : EV xs L d kc ks M sz h pc ls (.int y :: .int x :: st) Q := by
  subst hp
  exact r_pu hd rfl (rfl) k
theorem r_ior {pc' : Nat} {x y : Int32} (hp : pc + 1 = pc') (hd : decode M.2.1 pc = .ok (.ior, 1))  (k : EV xs L d kc ks M sz h pc' ls (.int (x ||| y) :: st) Q) : EV xs L d kc ks M sz h pc ls (.int y :: .int x :: st) Q := by
  subst hp
  exact r_pu hd rfl (rfl) k
theorem r_ixor {pc' : Nat} {x y : Int32} (hp : pc + 1 = pc') (hd : decode M.2.1 pc = .ok (.ixor, 1))  (k : EV xs L d kc ks M sz h pc' ls (.int (x ^^^ y) :: st) Q) : EV xs L d kc ks M sz h pc ls (.int y :: .int x :: st) Q := by
  subst hp
  exact r_pu hd rfl (rfl) k
theorem r_ishl {pc' : Nat} {x y : Int32} (hp : pc + 1 = pc') (hd : decode M.2.1 pc = .ok (.ishl, 1))  (k : EV xs L d kc ks M sz h pc' ls (.int (x <<< (y &&& 31)) :: st) Q) : EV xs L d kc ks M sz h pc ls (.int y :: .int x :: st) Q := by
  subst hp
  exact r_pu hd rfl (rfl) k
theorem r_ishr {pc' : Nat} {x y : Int32} (hp : pc + 1 = pc') (hd : decode M.2.1 pc = .ok (.ishr, 1))  (k : EV xs L d kc ks M sz h pc' ls (.int (x >>> (y &&& 31)) :: st) Q) : EV xs L d kc ks M sz h pc ls (.int y :: .int x :: st) Q := by
  subst hp
  exact r_pu hd rfl (rfl) k
theorem r_iushr {pc' : Nat} {x y : Int32} (hp : pc + 1 = pc') (hd : decode M.2.1 pc = .ok (.iushr, 1))  (k : EV xs L d kc ks M sz h pc' ls (.int ((x.toUInt32 >>> (y.toUInt32 &&& Int32.toUInt32 31)).toInt32) :: st) Q) : EV xs L d kc ks M sz h pc ls (.int y :: .int x :: st) Q := by
  subst hp
  exact r_pu hd rfl (rfl) k
theorem r_idiv {pc' : Nat} {x y : Int32} (hp : pc + 1 = pc') (hd : decode M.2.1 pc = .ok (.idiv, 1)) (hy : ¬ y = 0) (k : EV xs L d kc ks M sz h pc' ls (.int (x / y) :: st) Q) : EV xs L d kc ks M sz h pc ls (.int y :: .int x :: st) Q := by
  subst hp
  exact r_pu hd rfl (by simp only [ev_pu, ev_div, hy, if_false, Option.map_some]) k
theorem r_ladd {pc' : Nat} {x y : Int64} (hp : pc + 1 = pc') (hd : decode M.2.1 pc = .ok (.ladd, 1))  (k : EV xs L d kc ks M sz h pc' ls (.long (x + y) :: st) Q) : EV xs L d kc ks M sz h pc ls (.long y :: .long x :: st) Q := by
  subst hp
  exact r_pu hd rfl (rfl) k
theorem r_lsub {pc' : Nat} {x y : Int64} (hp : pc + 1 = pc') (hd : decode M.2.1 pc = .ok (.lsub, 1))  (k : EV xs L d kc ks M sz h pc' ls (.long (x - y) :: st) Q) : EV xs L d kc ks M sz h pc ls (.long y :: .long x :: st) Q := by
  subst hp
  exact r_pu hd rfl (rfl) k
theorem r_land {pc' : Nat} {x y : Int64} (hp : pc + 1 = pc') (hd : decode M.2.1 pc = .ok (.land, 1))  (k : EV xs L d kc ks M sz h pc' ls (.long (x &&& y) :: st) Q) : EV xs L d kc ks M sz h pc ls (.long y :: .long x :: st) Q := by
  subst hp
  exact r_pu hd rfl (rfl) k
theorem r_lor {pc' : Nat} {x y : Int64} (hp : pc + 1 = pc') (hd : decode M.2.1 pc = .ok (.lor, 1))  (k : EV xs L d kc ks M sz h pc' ls (.long (x ||| y) :: st) Q) : EV xs L d kc ks M sz h pc ls (.long y :: .long x :: st) Q := by
  subst hp
  exact r_pu hd rfl (rfl) k
theorem r_lxor {pc' : Nat} {x y : Int64} (hp : pc + 1 = pc') (hd : decode M.2.1 pc = .ok (.lxor, 1))  (k : EV xs L d kc ks M sz h pc' ls (.long (x ^^^ y) :: st) Q) : EV xs L d kc ks M sz h pc ls (.long y :: .long x :: st) Q := by
  subst hp
  exact r_pu hd rfl (rfl) k
theorem r_lcmp {pc' : Nat} {x y : Int64} (hp : pc + 1 = pc') (hd : decode M.2.1 pc = .ok (.lcmp, 1))  (k : EV xs L d kc ks M sz h pc' ls (.int (lg_cmp x y) :: st) Q) : EV xs L d kc ks M sz h pc ls (.long y :: .long x :: st) Q := by
  subst hp
  exact r_pu hd rfl (rfl) k
theorem r_lneg {pc' : Nat} {x : Int64} (hp : pc + 1 = pc') (hd : decode M.2.1 pc = .ok (.lneg, 1))  (k : EV xs L d kc ks M sz h pc' ls (.long (-x) :: st) Q) : EV xs L d kc ks M sz h pc ls (.long x :: st) Q := by
  subst hp
  exact r_pu hd rfl (rfl) k
theorem r_lshl {pc' : Nat} {x : Int64} {y : Int32} (hp : pc + 1 = pc') (hd : decode M.2.1 pc = .ok (.lshl, 1))  (k : EV xs L d kc ks M sz h pc' ls (.long (x <<< (y.toInt64 &&& 63)) :: st) Q) : EV xs L d kc ks M sz h pc ls (.int y :: .long x :: st) Q := by
  subst hp
  exact r_pu hd rfl (rfl) k
theorem r_lshr {pc' : Nat} {x : Int64} {y : Int32} (hp : pc + 1 = pc') (hd : decode M.2.1 pc = .ok (.lshr, 1))  (k : EV xs L d kc ks M sz h pc' ls (.long (x >>> (y.toInt64 &&& 63)) :: st) Q) : EV xs L d kc ks M sz h pc ls (.int y :: .long x :: st) Q := by
  subst hp
  exact r_pu hd rfl (rfl) k
theorem r_lushr {pc' : Nat} {x : Int64} {y : Int32} (hp : pc + 1 = pc') (hd : decode M.2.1 pc = .ok (.lushr, 1))  (k : EV xs L d kc ks M sz h pc' ls (.long ((x.toUInt64 >>> (y.toInt64.toUInt64 &&& Int64.toUInt64 63)).toInt64) :: st) Q) : EV xs L d kc ks M sz h pc ls (.int y :: .long x :: st) Q := by
  subst hp
  exact r_pu hd rfl (rfl) k
theorem r_i2l {pc' : Nat} {x : Int32} (hp : pc + 1 = pc') (hd : decode M.2.1 pc = .ok (.i2l, 1))  (k : EV xs L d kc ks M sz h pc' ls (.long x.toInt64 :: st) Q) : EV xs L d kc ks M sz h pc ls (.int x :: st) Q := by
  subst hp
  exact r_pu hd rfl (rfl) k
theorem r_i2b {pc' : Nat} {x : Int32} (hp : pc + 1 = pc') (hd : decode M.2.1 pc = .ok (.i2b, 1))  (k : EV xs L d kc ks M sz h pc' ls (.int x.toInt8.toInt32 :: st) Q) : EV xs L d kc ks M sz h pc ls (.int x :: st) Q := by
  subst hp
  exact r_pu hd rfl (rfl) k
theorem r_l2i {pc' : Nat} {x : Int64} (hp : pc + 1 = pc') (hd : decode M.2.1 pc = .ok (.l2i, 1))  (k : EV xs L d kc ks M sz h pc' ls (.int x.toInt32 :: st) Q) : EV xs L d kc ks M sz h pc ls (.long x :: st) Q := by
  subst hp
  exact r_pu hd rfl (rfl) k
theorem r_dup {pc' : Nat} {v : Value} (hp : pc + 1 = pc') (hd : decode M.2.1 pc = .ok (.dup, 1)) (hv : v.category = 1) (k : EV xs L d kc ks M sz h pc' ls (v :: v :: st) Q) : EV xs L d kc ks M sz h pc ls (v :: st) Q := by
  subst hp
  exact r_pu hd rfl (by simp only [ev_pu, ev_dup, hv, if_true, Option.map_some]) k
theorem r_pop {pc' : Nat} {v : Value} (hp : pc + 1 = pc') (hd : decode M.2.1 pc = .ok (.pop, 1)) (hv : v.category = 1) (k : EV xs L d kc ks M sz h pc' ls st Q) : EV xs L d kc ks M sz h pc ls (v :: st) Q := by
  subst hp
  exact r_pu hd rfl (by simp only [ev_pu, ev_pop, hv, if_true, Option.map_some]) k
theorem r_pop2 {pc' : Nat} {v : Value} (hp : pc + 1 = pc') (hd : decode M.2.1 pc = .ok (.pop2, 1)) (hv : v.category = 2) (k : EV xs L d kc ks M sz h pc' ls st Q) : EV xs L d kc ks M sz h pc ls (v :: st) Q := by
  subst hp
  exact r_pu hd rfl (by simp only [ev_pu, ev_pop2, hv, if_true, Option.map_some]) k
theorem r_dup2 {pc' : Nat} {v w : Value} (hp : pc + 1 = pc') (hd : decode M.2.1 pc = .ok (.dup2, 1)) (hv : ¬ v.category = 2) (hw : ¬ w.category = 2) (k : EV xs L d kc ks M sz h pc' ls (v :: w :: v :: w :: st) Q) : EV xs L d kc ks M sz h pc ls (v :: w :: st) Q := by
  subst hp
  exact r_pu hd rfl (by simp only [ev_pu, ev_dup2, hv, hw, if_false, Option.map_some]) k
theorem r_goto {pc' : Nat} {off : Int} (hp : (pc : Int) + off = (pc' : Nat)) (hd : decode M.2.1 pc = .ok (.goto off, 3)) (k : EV xs L d kc ks M sz h pc' ls st Q) : EV xs L d kc ks M sz h pc ls st Q := by
  refine r_pu hd rfl ?_ k
  have h0 : 0 ≤ (pc : Int) + off := by omega
  show (ev_to pc off).map _ = _
  unfold ev_to
  rw [if_pos h0, hp, Int.toNat_natCast]
  rfl
theorem r_br {i : Instr} {cd ce : Prop} {r : List Value} {off : Int} {tgt pc' : Nat} (hp : pc + 3 = pc') (ht : (pc : Int) + off = (tgt : Nat)) (hd : decode M.2.1 pc = .ok (i, 3)) (hb : ev_br i st = some (cd, ce, r, off)) (kt : cd → EV xs L d kc ks M sz h tgt ls r Q) (kf : ce → EV xs L d kc ks M sz h pc' ls r Q) : EV xs L d kc ks M sz h pc ls st Q := by
  subst hp
  exact EV.in ⟨i, 3, hd, Or.inr (Or.inl ⟨rfl, cd, ce, r, off, tgt, hb, ht, kt, kf⟩)⟩
theorem r_if_eq {x : Int32} {off : Int} {tgt pc' : Nat} (hp : pc + 3 = pc') (ht : (pc : Int) + off = (tgt : Nat)) (hd : decode M.2.1 pc = .ok (.ifCond .eq off, 3)) (kt : x = 0 → EV xs L d kc ks M sz h tgt ls st Q) (kf : ¬ x = 0 → EV xs L d kc ks M sz h pc' ls st Q) : EV xs L d kc ks M sz h pc ls (.int x :: st) Q := r_br hp ht hd rfl kt kf
theorem r_icmp_eq {x y : Int32} {off : Int} {tgt pc' : Nat} (hp : pc + 3 = pc') (ht : (pc : Int) + off = (tgt : Nat)) (hd : decode M.2.1 pc = .ok (.if_icmp .eq off, 3)) (kt : x = y → EV xs L d kc ks M sz h tgt ls st Q) (kf : ¬ x = y → EV xs L d kc ks M sz h pc' ls st Q) : EV xs L d kc ks M sz h pc ls (.int y :: .int x :: st) Q := r_br hp ht hd rfl kt kf
theorem r_if_ne {x : Int32} {off : Int} {tgt pc' : Nat} (hp : pc + 3 = pc') (ht : (pc : Int) + off = (tgt : Nat)) (hd : decode M.2.1 pc = .ok (.ifCond .ne off, 3)) (kt : ¬ x = 0 → EV xs L d kc ks M sz h tgt ls st Q) (kf : x = 0 → EV xs L d kc ks M sz h pc' ls st Q) : EV xs L d kc ks M sz h pc ls (.int x :: st) Q := r_br hp ht hd rfl kt kf
theorem r_icmp_ne {x y : Int32} {off : Int} {tgt pc' : Nat} (hp : pc + 3 = pc') (ht : (pc : Int) + off = (tgt : Nat)) (hd : decode M.2.1 pc = .ok (.if_icmp .ne off, 3)) (kt : ¬ x = y → EV xs L d kc ks M sz h tgt ls st Q) (kf : x = y → EV xs L d kc ks M sz h pc' ls st Q) : EV xs L d kc ks M sz h pc ls (.int y :: .int x :: st) Q := r_br hp ht hd rfl kt kf
theorem r_if_lt {x : Int32} {off : Int} {tgt pc' : Nat} (hp : pc + 3 = pc') (ht : (pc : Int) + off = (tgt : Nat)) (hd : decode M.2.1 pc = .ok (.ifCond .lt off, 3)) (kt : x < 0 → EV xs L d kc ks M sz h tgt ls st Q) (kf : ¬ x < 0 → EV xs L d kc ks M sz h pc' ls st Q) : EV xs L d kc ks M sz h pc ls (.int x :: st) Q := r_br hp ht hd rfl kt kf
theorem r_icmp_lt {x y : Int32} {off : Int} {tgt pc' : Nat} (hp : pc + 3 = pc') (ht : (pc : Int) + off = (tgt : Nat)) (hd : decode M.2.1 pc = .ok (.if_icmp .lt off, 3)) (kt : x < y → EV xs L d kc ks M sz h tgt ls st Q) (kf : ¬ x < y → EV xs L d kc ks M sz h pc' ls st Q) : EV xs L d kc ks M sz h pc ls (.int y :: .int x :: st) Q := r_br hp ht hd rfl kt kf
theorem r_if_ge {x : Int32} {off : Int} {tgt pc' : Nat} (hp : pc + 3 = pc') (ht : (pc : Int) + off = (tgt : Nat)) (hd : decode M.2.1 pc = .ok (.ifCond .ge off, 3)) (kt : 0 ≤ x → EV xs L d kc ks M sz h tgt ls st Q) (kf : ¬ 0 ≤ x → EV xs L d kc ks M sz h pc' ls st Q) : EV xs L d kc ks M sz h pc ls (.int x :: st) Q := r_br hp ht hd rfl kt kf
theorem r_icmp_ge {x y : Int32} {off : Int} {tgt pc' : Nat} (hp : pc + 3 = pc') (ht : (pc : Int) + off = (tgt : Nat)) (hd : decode M.2.1 pc = .ok (.if_icmp .ge off, 3)) (kt : y ≤ x → EV xs L d kc ks M sz h tgt ls st Q) (kf : ¬ y ≤ x → EV xs L d kc ks M sz h pc' ls st Q) : EV xs L d kc ks M sz h pc ls (.int y :: .int x :: st) Q := r_br hp ht hd rfl kt kf
theorem r_if_gt {x : Int32} {off : Int} {tgt pc' : Nat} (hp : pc + 3 = pc') (ht : (pc : Int) + off = (tgt : Nat)) (hd : decode M.2.1 pc = .ok (.ifCond .gt off, 3)) (kt : 0 < x → EV xs L d kc ks M sz h tgt ls st Q) (kf : ¬ 0 < x → EV xs L d kc ks M sz h pc' ls st Q) : EV xs L d kc ks M sz h pc ls (.int x :: st) Q := r_br hp ht hd rfl kt kf
theorem r_icmp_gt {x y : Int32} {off : Int} {tgt pc' : Nat} (hp : pc + 3 = pc') (ht : (pc : Int) + off = (tgt : Nat)) (hd : decode M.2.1 pc = .ok (.if_icmp .gt off, 3)) (kt : y < x → EV xs L d kc ks M sz h tgt ls st Q) (kf : ¬ y < x → EV xs L d kc ks M sz h pc' ls st Q) : EV xs L d kc ks M sz h pc ls (.int y :: .int x :: st) Q := r_br hp ht hd rfl kt kf
theorem r_if_le {x : Int32} {off : Int} {tgt pc' : Nat} (hp : pc + 3 = pc') (ht : (pc : Int) + off = (tgt : Nat)) (hd : decode M.2.1 pc = .ok (.ifCond .le off, 3)) (kt : x ≤ 0 → EV xs L d kc ks M sz h tgt ls st Q) (kf : ¬ x ≤ 0 → EV xs L d kc ks M sz h pc' ls st Q) : EV xs L d kc ks M sz h pc ls (.int x :: st) Q := r_br hp ht hd rfl kt kf
theorem r_icmp_le {x y : Int32} {off : Int} {tgt pc' : Nat} (hp : pc + 3 = pc') (ht : (pc : Int) + off = (tgt : Nat)) (hd : decode M.2.1 pc = .ok (.if_icmp .le off, 3)) (kt : x ≤ y → EV xs L d kc ks M sz h tgt ls st Q) (kf : ¬ x ≤ y → EV xs L d kc ks M sz h pc' ls st Q) : EV xs L d kc ks M sz h pc ls (.int y :: .int x :: st) Q := r_br hp ht hd rfl kt kf
theorem r_ifnull {a : Nat} {off : Int} {pc' : Nat} (hp : pc + 3 = pc') (ht : 0 ≤ (pc : Int) + off) (hd : decode M.2.1 pc = .ok (.ifnull off, 3)) (k : EV xs L d kc ks M sz h pc' ls st Q) : EV xs L d kc ks M sz h pc ls (.ref a :: st) Q := r_br (tgt := ((pc : Int) + off).toNat) hp (Int.toNat_of_nonneg ht).symm hd rfl (fun q => q.elim) (fun _ => k)
theorem r_ifnullN {off : Int} {tgt : Nat} (ht : (pc : Int) + off = (tgt : Nat)) (hd : decode M.2.1 pc = .ok (.ifnull off, 3)) (k : EV xs L d kc ks M sz h tgt ls st Q) : EV xs L d kc ks M sz h pc ls (.null :: st) Q := EV.in ⟨_, 3, hd, Or.inr (Or.inl ⟨rfl, True, False, st, off, tgt, rfl, ht, fun _ => k, fun q => q.elim⟩)⟩
theorem r_ifnonnull {a : Nat} {off : Int} {tgt : Nat} (ht : (pc : Int) + off = (tgt : Nat)) (hd : decode M.2.1 pc = .ok (.ifnonnull off, 3)) (k : EV xs L d kc ks M sz h tgt ls st Q) : EV xs L d kc ks M sz h pc ls (.ref a :: st) Q := EV.in ⟨_, 3, hd, Or.inr (Or.inl ⟨rfl, True, False, st, off, tgt, rfl, ht, fun _ => k, fun q => q.elim⟩)⟩
theorem r_ifnonnullN {off : Int} {pc' : Nat} (hp : pc + 3 = pc') (ht : 0 ≤ (pc : Int) + off) (hd : decode M.2.1 pc = .ok (.ifnonnull off, 3)) (k : EV xs L d kc ks M sz h pc' ls st Q) : EV xs L d kc ks M sz h pc ls (.null :: st) Q := r_br (tgt := ((pc : Int) + off).toNat) hp (Int.toNat_of_nonneg ht).symm hd rfl (fun q => q.elim) (fun _ => k)
theorem r_swO {dflt lo hi : Int} {offs : Array Int} {len tgt : Nat} {x : Int32} (hd : decode M.2.1 pc = .ok (.tableswitch dflt lo hi offs, len)) (ht : (pc : Int) + dflt = (tgt : Nat)) (hx : x.toInt < lo ∨ hi < x.toInt) (k : EV xs L d kc ks M sz h tgt ls st Q) : EV xs L d kc ks M sz h pc ls (.int x :: st) Q := EV.in ⟨_, len, hd, Or.inr (Or.inr (Or.inl ⟨dflt, lo, hi, offs, x, st, dflt, tgt, rfl, rfl, Or.inl ⟨hx, rfl⟩, ht, k⟩))⟩
theorem r_swI {dflt lo hi off : Int} {offs : Array Int} {len tgt : Nat} {x : Int32} (hd : decode M.2.1 pc = .ok (.tableswitch dflt lo hi offs, len)) (ht : (pc : Int) + off = (tgt : Nat)) (h1 : ¬ x.toInt < lo) (h2 : ¬ hi < x.toInt) (ho : offs[(x.toInt - lo).toNat]? = some off) (k : EV xs L d kc ks M sz h tgt ls st Q) : EV xs L d kc ks M sz h pc ls (.int x :: st) Q := EV.in ⟨_, len, hd, Or.inr (Or.inr (Or.inl ⟨dflt, lo, hi, offs, x, st, off, tgt, rfl, rfl, Or.inr ⟨h1, h2, ho⟩, ht, k⟩))⟩
theorem r_topi {x : Int32} (k : ∀ y : Int32, y = x → EV xs L d kc ks M sz h pc ls (.int y :: st) Q) : EV xs L d kc ks M sz h pc ls (.int x :: st) Q := k x rfl
theorem r_topl {x : Int64} (k : ∀ y : Int64, y = x → EV xs L d kc ks M sz h pc ls (.long y :: st) Q) : EV xs L d kc ks M sz h pc ls (.long x :: st) Q := k x rfl
theorem r_get {pc' : Nat} {idx a ci : Nat} {fs : List Value} {v : Value} (hp : pc + 3 = pc') (hd : decode M.2.1 pc = .ok (.getfield idx, 3)) (ha : 2 ≤ a) (hs : a < sz) (hh : h a = .inr (ci, fs)) (f : Nat) (hf : ev_fl M.1.cls idx ci f) (hv : fs[f]? = some v) (k : EV xs L d kc ks M sz h pc' ls (v :: st) Q) : EV xs L d kc ks M sz h pc ls (.ref a :: st) Q := by
  subst hp
  exact EV.in ⟨_, 3, hd, Or.inr (Or.inr (Or.inr (Or.inl ⟨a, st, ci, fs, f, v, rfl, ha, hs, hh, hf, hv, rfl, k⟩)))⟩
theorem r_put {pc' : Nat} {idx a ci : Nat} {fs fs' : List Value} {v : Value} (hp : pc + 3 = pc') (hd : decode M.2.1 pc = .ok (.putfield idx, 3)) (ha : 2 ≤ a) (hs : a < sz) (hh : h a = .inr (ci, fs)) (f : Nat) (hf : ev_fp ks M.1 idx ci f v) (hl : f < fs.length) (he : fs.set f v = fs') (k : EV xs L d kc ks M sz (va_up h a (.inr (ci, fs'))) pc' ls st Q) : EV xs L d kc ks M sz h pc ls (v :: .ref a :: st) Q := by
  subst hp
  exact EV.in ⟨_, 3, hd, Or.inr (Or.inr (Or.inr (Or.inl (by rw [← he] at k; exact ⟨a, st, ci, fs, f, v, rfl, ha, hs, hh, hf, hl, rfl, k⟩))))⟩
theorem r_iald {pc' : Nat} {jn : Nat} {a n : Nat} {j : Int32} {f : Nat → Int32} (hp : pc + 1 = pc') (hd : decode M.2.1 pc = .ok (.iaload, 1)) (ha : 2 ≤ a) (hs : a < sz) (hh : h a = .inl (0, n, .inl f)) (hj : vp_in j n) (hjn : j.toNatClampNeg = jn) (k : EV xs L d kc ks M sz h pc' ls (.int (f jn) :: st) Q) : EV xs L d kc ks M sz h pc ls (.int j :: .ref a :: st) Q := by
  subst hp
  exact EV.in ⟨_, 1, hd, Or.inr (Or.inr (Or.inr (Or.inl (by subst hjn; exact ⟨a, st, j, rfl, Or.inl ⟨n, f, ha, hs, hh, hj, rfl, k⟩⟩))))⟩
theorem r_sld {pc' : Nat} {jn : Nat} {j : Int32} (hp : pc + 1 = pc') (hd : decode M.2.1 pc = .ok (.iaload, 1)) (hj : vp_in j L) (hjn : j.toNatClampNeg = jn) (k : EV xs L d kc ks M sz h pc' ls (.int (xs jn) :: st) Q) : EV xs L d kc ks M sz h pc ls (.int j :: .ref 0 :: st) Q := by
  subst hp
  exact EV.in ⟨_, 1, hd, Or.inr (Or.inr (Or.inr (Or.inl (by subst hjn; exact ⟨0, st, j, rfl, Or.inr ⟨rfl, hj, rfl, k⟩⟩))))⟩
theorem r_lald {pc' : Nat} {jn : Nat} {a n : Nat} {j : Int32} {f : Nat → Int64} (hp : pc + 1 = pc') (hd : decode M.2.1 pc = .ok (.laload, 1)) (ha : 2 ≤ a) (hs : a < sz) (hh : h a = .inl (1, n, .inr (.inl f))) (hj : vp_in j n) (hjn : j.toNatClampNeg = jn) (k : EV xs L d kc ks M sz h pc' ls (.long (f jn) :: st) Q) : EV xs L d kc ks M sz h pc ls (.int j :: .ref a :: st) Q := by
  subst hp
  exact EV.in ⟨_, 1, hd, Or.inr (Or.inr (Or.inr (Or.inl (by subst hjn; exact ⟨a, st, j, rfl, Or.inl ⟨n, f, ha, hs, hh, hj, rfl, k⟩⟩))))⟩
theorem r_sold {pc' : Nat} {jn : Nat} {j : Int32} (hp : pc + 1 = pc') (hd : decode M.2.1 pc = .ok (.laload, 1)) (hj : vp_in j 6) (hjn : j.toNatClampNeg = jn) (k : EV xs L d kc ks M sz h pc' ls (.long (ev_so jn) :: st) Q) : EV xs L d kc ks M sz h pc ls (.int j :: .ref 1 :: st) Q := by
  subst hp
  exact EV.in ⟨_, 1, hd, Or.inr (Or.inr (Or.inr (Or.inl (by subst hjn; exact ⟨1, st, j, rfl, Or.inr ⟨rfl, hj, rfl, k⟩⟩))))⟩
theorem r_bald {pc' : Nat} {jn : Nat} {a n : Nat} {j : Int32} {f : Nat → Int32} (hp : pc + 1 = pc') (hd : decode M.2.1 pc = .ok (.baload, 1)) (ha : 2 ≤ a) (hs : a < sz) (hh : h a = .inl (2, n, .inl f)) (hj : vp_in j n) (hjn : j.toNatClampNeg = jn) (k : EV xs L d kc ks M sz h pc' ls (.int (f jn) :: st) Q) : EV xs L d kc ks M sz h pc ls (.int j :: .ref a :: st) Q := by
  subst hp
  exact EV.in ⟨_, 1, hd, Or.inr (Or.inr (Or.inr (Or.inl (by subst hjn; exact ⟨a, st, j, n, f, rfl, ha, hs, hh, hj, rfl, k⟩))))⟩
theorem r_aald {pc' : Nat} {jn : Nat} {a n t : Nat} {j : Int32} {f : Nat → Option Nat} {v : Value} (hp : pc + 1 = pc') (hd : decode M.2.1 pc = .ok (.aaload, 1)) (ha : 2 ≤ a) (hs : a < sz) (hh : h a = .inl (t, n, .inr (.inr (.inr (.inr f))))) (ht : t = 3 ∨ t = 4) (hj : vp_in j n) (hjn : j.toNatClampNeg = jn) (hv : va_rf (f jn) = v) (k : EV xs L d kc ks M sz h pc' ls (v :: st) Q) : EV xs L d kc ks M sz h pc ls (.int j :: .ref a :: st) Q := by
  subst hp
  exact EV.in ⟨_, 1, hd, Or.inr (Or.inr (Or.inr (Or.inl (by subst hjn; exact ⟨a, st, j, t, n, f, rfl, ha, hs, hh, ht, hj, rfl, by rw [hv]; exact k⟩))))⟩
theorem r_iast {pc' : Nat} {jn : Nat} {a n : Nat} {j x : Int32} {f : Nat → Int32} (hp : pc + 1 = pc') (hd : decode M.2.1 pc = .ok (.iastore, 1)) (ha : 2 ≤ a) (hs : a < sz) (hh : h a = .inl (0, n, .inl f)) (hj : vp_in j n) (hjn : j.toNatClampNeg = jn) (k : EV xs L d kc ks M sz (va_up h a (.inl (0, n, .inl (upd f jn x)))) pc' ls st Q) : EV xs L d kc ks M sz h pc ls (.int x :: .int j :: .ref a :: st) Q := by
  subst hp
  exact EV.in ⟨_, 1, hd, Or.inr (Or.inr (Or.inr (Or.inl (by subst hjn; exact ⟨a, st, j, x, n, f, rfl, ha, hs, hh, hj, rfl, k⟩))))⟩
theorem r_last {pc' : Nat} {jn : Nat} {a n : Nat} {j : Int32} {x : Int64} {f : Nat → Int64} (hp : pc + 1 = pc') (hd : decode M.2.1 pc = .ok (.lastore, 1)) (ha : 2 ≤ a) (hs : a < sz) (hh : h a = .inl (1, n, .inr (.inl f))) (hj : vp_in j n) (hjn : j.toNatClampNeg = jn) (k : EV xs L d kc ks M sz (va_up h a (.inl (1, n, .inr (.inl (vp_updL f jn x))))) pc' ls st Q) : EV xs L d kc ks M sz h pc ls (.long x :: .int j :: .ref a :: st) Q := by
  subst hp
  exact EV.in ⟨_, 1, hd, Or.inr (Or.inr (Or.inr (Or.inl (by subst hjn; exact ⟨a, st, j, x, n, f, rfl, ha, hs, hh, hj, rfl, k⟩))))⟩
theorem r_bast {pc' : Nat} {jn : Nat} {a n : Nat} {j x : Int32} {f : Nat → Int32} (hp : pc + 1 = pc') (hd : decode M.2.1 pc = .ok (.bastore, 1)) (ha : 2 ≤ a) (hs : a < sz) (hh : h a = .inl (2, n, .inl f)) (hj : vp_in j n) (hjn : j.toNatClampNeg = jn) (k : EV xs L d kc ks M sz (va_up h a (.inl (2, n, .inl (upd f jn (vp_nar .byte x))))) pc' ls st Q) : EV xs L d kc ks M sz h pc ls (.int x :: .int j :: .ref a :: st) Q := by
  subst hp
  exact EV.in ⟨_, 1, hd, Or.inr (Or.inr (Or.inr (Or.inl (by subst hjn; exact ⟨a, st, j, x, n, f, rfl, ha, hs, hh, hj, rfl, k⟩))))⟩
theorem r_aast {pc' : Nat} {jn : Nat} {a n t v ci : Nat} {j : Int32} {f : Nat → Option Nat} {fs : List Value} {q : vw_C} (hp : pc + 1 = pc') (hd : decode M.2.1 pc = .ok (.aastore, 1)) (ha : 2 ≤ a) (hs : a < sz) (hv : 2 ≤ v) (hvs : v < sz) (hh : h a = .inl (t, n, .inr (.inr (.inr (.inr f))))) (hw : h v = .inr (ci, fs)) (hq : dp_cl[ci]? = some q) (ht : t = 3 ∧ q.1 = RX10 ∨ t = 4 ∧ q.1 = RX3) (hk : 0 < ks) (hj : vp_in j n) (hjn : j.toNatClampNeg = jn) (k : EV xs L d kc ks M sz (va_up h a (.inl (t, n, .inr (.inr (.inr (.inr (va_up f jn (some v)))))))) pc' ls st Q) : EV xs L d kc ks M sz h pc ls (.ref v :: .int j :: .ref a :: st) Q := by
  subst hp
  exact EV.in ⟨_, 1, hd, Or.inr (Or.inr (Or.inr (Or.inl (by subst hjn; exact ⟨a, st, j, v, t, n, f, ci, fs, q, rfl, ha, hs, hv, hvs, hh, hw, hq, ht, hk, hj, rfl, k⟩))))⟩
theorem r_alen {pc' : Nat} {a t : Nat} {x : vp_A} {v : Int32} (hp : pc + 1 = pc') (hd : decode M.2.1 pc = .ok (.arraylength, 1)) (ha : 2 ≤ a) (hs : a < sz) (hh : h a = .inl (t, x)) (ht : t < 5) (hv : Int32.ofNat x.1 = v) (k : EV xs L d kc ks M sz h pc' ls (.int v :: st) Q) : EV xs L d kc ks M sz h pc ls (.ref a :: st) Q := by
  subst hp
  exact EV.in ⟨_, 1, hd, Or.inr (Or.inr (Or.inr (Or.inl ⟨a, st, rfl, Or.inl ⟨t, x, ha, hs, hh, ht, rfl, by rw [hv]; exact k⟩⟩)))⟩
theorem r_slen {pc' : Nat}  (hp : pc + 1 = pc') (hd : decode M.2.1 pc = .ok (.arraylength, 1))  (k : EV xs L d kc ks M sz h pc' ls (.int (Int32.ofNat L) :: st) Q) : EV xs L d kc ks M sz h pc ls (.ref 0 :: st) Q := by
  subst hp
  exact EV.in ⟨_, 1, hd, Or.inr (Or.inr (Or.inr (Or.inl ⟨0, st, rfl, Or.inr (Or.inl ⟨rfl, rfl, k⟩)⟩)))⟩
theorem r_solen {pc' : Nat}  (hp : pc + 1 = pc') (hd : decode M.2.1 pc = .ok (.arraylength, 1))  (k : EV xs L d kc ks M sz h pc' ls (.int 6 :: st) Q) : EV xs L d kc ks M sz h pc ls (.ref 1 :: st) Q := by
  subst hp
  exact EV.in ⟨_, 1, hd, Or.inr (Or.inr (Or.inr (Or.inl ⟨1, st, rfl, Or.inr (Or.inr ⟨rfl, rfl, k⟩)⟩)))⟩
theorem r_newa {pc' : Nat} {ty : ArrayType} {n : Int32} {N t : Nat} {x : vp_A} (hp : pc + 2 = pc') (hd : decode M.2.1 pc = .ok (.newarray ty, 2)) (hn : ¬ n < 0) (hN : n.toNatClampNeg = N) (hb : N ≤ 65536) (ht : ev_at ty = some (t, x)) (hc : Cond.arrayClass (newarray.typeOf ty) ∈ dp_tb) (k : EV xs L d kc ks M (sz + 1) (va_up h sz (.inl (t, N, x.2))) pc' ls (.ref sz :: st) Q) : EV xs L d (kc + 1) (ks + N) M sz h pc ls (.int n :: st) Q := by
  subst hp
  exact EV.in ⟨_, 2, hd, Or.inr (Or.inr (Or.inr (Or.inl ⟨st, n, N, t, x, kc, ks, rfl, hn, hN, hb, ht, hc, rfl, rfl, rfl, k⟩)))⟩
theorem r_anew {pc' : Nat} {idx : Nat} {n : Int32} {N t : Nat} {C : String} (hp : pc + 3 = pc') (hd : decode M.2.1 pc = .ok (.anewarray idx, 3)) (hn : ¬ n < 0) (hN : n.toNatClampNeg = N) (hb : N ≤ 65536) (ht : t = 3 ∧ C = RX10 ∨ t = 4 ∧ C = RX3) (hc : Cond.classLink M.1.cls idx C ∈ dp_tb) (ho : Cond.arrayOver (.object C) ∈ dp_nb) (k : EV xs L d kc ks M (sz + 1) (va_up h sz (.inl (t, N, .inr (.inr (.inr (.inr (fun _ => none))))))) pc' ls (.ref sz :: st) Q) : EV xs L d (kc + 1) (ks + N) M sz h pc ls (.int n :: st) Q := by
  subst hp
  exact EV.in ⟨_, 3, hd, Or.inr (Or.inr (Or.inr (Or.inl ⟨st, n, N, t, C, kc, ks, rfl, hn, hN, hb, ht, hc, ho, rfl, rfl, rfl, k⟩)))⟩
theorem r_new {pc' : Nat} {idx N : Nat} (ci : Nat) {q : vw_C} {fs : List Value} (hp : pc + 3 = pc') (hd : decode M.2.1 pc = .ok (.new idx, 3)) (hq : dp_cl[ci]? = some q) (hN : q.2.2 = N) (h1 : Cond.classLink M.1.cls idx q.1 ∈ dp_tb) (h2 : Cond.instantiable q.1 q.2.2 ∈ dp_tb) (h3 : Cond.initialized q.1 ∈ dp_tb) (hf : (List.range q.2.2).map (fun j => defaultValue (dp_ty ci j)) = fs) (k : EV xs L d kc ks M (sz + 1) (va_up h sz (.inr (ci, fs))) pc' ls (.ref sz :: st) Q) : EV xs L d (kc + 1) (ks + N) M sz h pc ls st Q := by
  subst hp
  exact EV.in ⟨_, 3, hd, Or.inr (Or.inr (Or.inr (Or.inl ⟨ci, q, fs, kc, ks, hq, h1, h2, h3, hf.symm, rfl, by rw [hN], rfl, k⟩)))⟩
theorem r_gets {pc' : Nat} {idx : Nat} (hp : pc + 3 = pc') (hd : decode M.2.1 pc = .ok (.getstatic idx, 3)) (hl : Cond.fieldLink M.1.cls idx RX10 "SO" "[J" ∈ dp_tb) (k : EV xs L d kc ks M sz h pc' ls (.ref 1 :: st) Q) : EV xs L d kc ks M sz h pc ls st Q := by
  subst hp
  exact EV.in ⟨_, 3, hd, Or.inr (Or.inr (Or.inr (Or.inl ⟨hl, rfl, k⟩)))⟩
theorem r_ldc {pc' : Nat} {idx : Nat} {v : Int32} (hp : pc + 2 = pc') (hd : decode M.2.1 pc = .ok (.ldc idx, 2)) (hl : Cond.constant M.1.cls idx v ∈ dp_tb) (k : EV xs L d kc ks M sz h pc' ls (.int v :: st) Q) : EV xs L d kc ks M sz h pc ls st Q := by
  subst hp
  exact EV.in ⟨_, 2, hd, Or.inr (Or.inr (Or.inr (Or.inl ⟨v, hl, rfl, k⟩)))⟩
theorem r_ldcw {pc' : Nat} {idx : Nat} {v : Int32} (hp : pc + 3 = pc') (hd : decode M.2.1 pc = .ok (.ldc_w idx, 3)) (hl : Cond.constant M.1.cls idx v ∈ dp_tb) (k : EV xs L d kc ks M sz h pc' ls (.int v :: st) Q) : EV xs L d kc ks M sz h pc ls st Q := by
  subst hp
  exact EV.in ⟨_, 3, hd, Or.inr (Or.inr (Or.inr (Or.inl ⟨v, hl, rfl, k⟩)))⟩
theorem r_ldc2 {pc' : Nat} {idx : Nat} {v : Int64} (hp : pc + 3 = pc') (hd : decode M.2.1 pc = .ok (.ldc2_w idx, 3)) (hl : Cond.constantLong M.1.cls idx v ∈ dp_tb) (k : EV xs L d kc ks M sz h pc' ls (.long v :: st) Q) : EV xs L d kc ks M sz h pc ls st Q := by
  subst hp
  exact EV.in ⟨_, 3, hd, Or.inr (Or.inr (Or.inr (Or.inl ⟨v, hl, rfl, k⟩)))⟩
theorem r_oinit {pc' : Nat} {idx a : Nat} (hp : pc + 3 = pc') (hd : decode M.2.1 pc = .ok (.invokespecial idx, 3)) (h0 : 0 < d) (hc : ev_cs st ≤ 8) (hl : Cond.methodLink M.1.cls idx objectInit ∈ dp_tb) (h1 : Cond.instanceMethod objectInit ∈ dp_tb) (h2 : Cond.code objectInit ⟨#[0xb1]⟩ 1 none ∈ dp_tb) (k : EV xs L d kc ks M sz h pc' ls st Q) : EV xs L d kc ks M sz h pc ls (.ref a :: st) Q := by
  subst hp
  exact EV.in ⟨_, 3, hd, Or.inr (Or.inr (Or.inr (Or.inl ⟨a, st, rfl, h0, hc, hl, h1, h2, rfl, k⟩)))⟩
theorem r_min {pc' : Nat} {idx : Nat} {x y : Int32} (hp : pc + 3 = pc') (hd : decode M.2.1 pc = .ok (.invokestatic idx, 3)) (h0 : 0 < d) (hc : ev_cs st ≤ 8) (hl : Cond.methodLink M.1.cls idx Lib.Math.min.name ∈ dp_tb) (h1 : Cond.static Lib.Math.min.name ∈ dp_tb) (h2 : Cond.initialized "java/lang/Math" ∈ dp_tb) (h3 : Cond.code Lib.Math.min.name Lib.Math.min.code 2 (some .int) ∈ dp_tb) (k : EV xs L d kc ks M sz h pc' ls (.int (if y < x then y else x) :: st) Q) : EV xs L d kc ks M sz h pc ls (.int y :: .int x :: st) Q := by
  subst hp
  exact EV.in ⟨_, 3, hd, Or.inr (Or.inr (Or.inr (Or.inl ⟨x, y, st, rfl, h0, hc, hl, h1, h2, h3, rfl, k⟩)))⟩
theorem r_call {i : Instr} {pc' d' kc' ks' kc2 ks2 : Nat} {M' : ev_M} {As rest : List Value} {Qm : ev_Q} (hp : pc + 3 = pc') (hd : decode M.2.1 pc = .ok (i, 3)) (hc : ev_ca M i sz h st M' As rest) (h1 : kc = kc' + kc2) (h2 : ks = ks' + ks2) (hE : EV xs L d' kc' ks' M' sz h 0 (ev_en As M'.2.2.1) [] Qm) (k : ∀ sz' h' r, Qm sz' h' r → EV xs L (d' + 1) kc2 ks2 M sz' h' pc' ls (r ++ rest) Q) : EV xs L (d' + 1) kc ks M sz h pc ls st Q := by
  subst hp
  exact EV.in ⟨i, 3, hd, Or.inr (Or.inr (Or.inr (Or.inr (Or.inl ⟨rfl, M', As, rest, d', kc', ks', kc2, ks2, Qm, rfl, h1, h2, hc, hE, k⟩))))⟩
theorem r_ret {i : Instr} (hd : decode M.2.1 pc = .ok (i, 1)) (hr : ev_rt M.2.2.2 i st) (hq : Q sz h st) : EV xs L d kc ks M sz h pc ls st Q := EV.in ⟨i, 1, hd, Or.inr (Or.inr (Or.inr (Or.inr (Or.inr ⟨rfl, hr, hq⟩))))⟩
end RR
