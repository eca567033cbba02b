theorem bkR_n {Y : Nat → Int64} {e : Nat} {V : Nat → Int64} {k q : Nat} (h : ¬ (4 * e ≤ q ∧ q < 4 * e + k)) : bkR Y e V k q = Y q := if_neg h
def maB (b : Int32) (w : Nat) : Bool := decide (¬ nI w &&& b = 0)
theorem maB_t {b : Int32} {w : Nat} (h : ¬ nI w &&& b = 0) : maB b w = true := decide_eq_true h
theorem maB_f {b : Int32} {w : Nat} (h : nI w &&& b = 0) : ¬ maB b w = true := fun z => of_decide_eq_true z h
/-- what a STEP's LINE says, part by part -/
def mkV (o t : Bool) (way : Nat) (b : Int32) (Y : Nat → Int64) (i j p : Nat) : Int64 := cond (way == 2 && (o && t)) ((wO (maB b) p &&& Y (160 * way + 4 * j + p)) ||| ((wO (maB b) p ^^^ (-1)) &&& Y (160 * way + 4 * i + p))) (cond (cond (way == 1) o (o && !t)) (Y (160 * way + 4 * i + p) ||| Y (160 * way + 4 * j + p)) (Y (160 * way + 4 * i + p) &&& Y (160 * way + 4 * j + p)))
def mkY1 (o t : Bool) (b : Int32) (Y : Nat → Int64) (n i j : Nat) : Nat → Int64 := bkR Y n (mkV o t 0 b Y i j) 4
def mkY2 (o t : Bool) (b : Int32) (Y : Nat → Int64) (n i j : Nat) : Nat → Int64 := bkR (mkY1 o t b Y n i j) (40 + n) (mkV o t 1 b (mkY1 o t b Y n i j) i j) 4
def mkY (o t : Bool) (b : Int32) (Y : Nat → Int64) (n i j : Nat) : Nat → Int64 := bkR (mkY2 o t b Y n i j) (80 + n) (mkV o t 2 b (mkY2 o t b Y n i j) i j) 4
set_option maxRecDepth 20000 in
set_option maxHeartbeats 1000000 in
theorem z_so_z {xs : Nat → Int32} {L d : Nat} {h : ev_H} {h0 : ev_H} {th : Int32} {tr : Int64} {ty nx tk pl va fa ss wg : Int32} {c m : Nat} {s i j n : Nat} {bt le no : Int32} {G : Nat → Int32} {Y : Nat → Int64} {Q : ev_Q} {p : Nat} {u12 : Option Value} {u14 : Option Value} {u16 : Option Value} {u17 : Option Value} {k : Nat} (hS : SH h) (hp : p < 4) (kx : ∀ h' : ev_H, SH h' → KM [426] h0 h' → h' 420 = .inr (12, [.int th, .long tr, .ref 421, .int ty, .int nx, .int tk, .int pl, .int va, .int fa, .int (nI c), .int (nI m), .int ss, .int wg, .ref 422, .ref 423, .ref 424, .ref 425, .ref 426, .ref 427, .ref 428, .ref 429, .ref 430, .ref 431, .ref 432, .ref 433]) → h' 422 = .inl (0, 240, .inl G) → h' 426 = .inl (1, 480, .inr (.inl Y)) → EV xs L (d + 2) 0 0 M_X12_makes 434 h' 440 [some (.ref 420), some (.int (nI s)), some (.int (nI i)), some (.int (nI j)), some (.int bt), some (.int le), some (.int no), some (.int (nI n)), some (.int 1), some (.int 1), some (.int 2), some (.int (nI p)), u12, none, u14, none, u16, u17, none, some (.long (oP (fun j => maB bt (64 * p + j)) (64))), none, some (.int (nI 64))] [] Q) (hF : KM [426] h0 h) (h5 : h 420 = .inr (12, [.int th, .long tr, .ref 421, .int ty, .int nx, .int tk, .int pl, .int va, .int fa, .int (nI c), .int (nI m), .int ss, .int wg, .ref 422, .ref 423, .ref 424, .ref 425, .ref 426, .ref 427, .ref 428, .ref 429, .ref 430, .ref 431, .ref 432, .ref 433])) (h22 : h 422 = .inl (0, 240, .inl G)) (h26 : h 426 = .inl (1, 480, .inr (.inl Y))) (hk : k = 64) : EV xs L (d + 2) 0 0 M_X12_makes 434 h 400 [some (.ref 420), some (.int (nI s)), some (.int (nI i)), some (.int (nI j)), some (.int bt), some (.int le), some (.int no), some (.int (nI n)), some (.int 1), some (.int 1), some (.int 2), some (.int (nI p)), u12, none, u14, none, u16, u17, none, some (.long (oP (fun j => maB bt (64 * p + j)) (k))), none, some (.int (nI k))] [] Q := by
  refine r_iload rfl dX12_makes_400 rfl ?_
  refine r_bipush (v := 64) rfl dX12_makes_402 (by decide) ?_
  refine r_icmp_ge (tgt := 440) rfl rfl dX12_makes_404 (fun _ => ?_) (fun zc => absurd (show nI (64) ≤ nI k from nI_le (a := 64) (b := k) (by omega) (by omega)) zc)
  subst hk
  exact kx h hS hF h5 h22 h26
set_option maxRecDepth 20000 in
set_option maxHeartbeats 1000000 in
theorem z_so_s {xs : Nat → Int32} {L d : Nat} {h : ev_H} {h0 : ev_H} {th : Int32} {tr : Int64} {ty nx tk pl va fa ss wg : Int32} {c m : Nat} {s i j n : Nat} {bt le no : Int32} {G : Nat → Int32} {Y : Nat → Int64} {Q : ev_Q} {p : Nat} {u12 : Option Value} {u14 : Option Value} {u16 : Option Value} {u17 : Option Value} {k : Nat} (hS : SH h) (hp : p < 4) (kx : ∀ h' : ev_H, SH h' → KM [426] h0 h' → h' 420 = .inr (12, [.int th, .long tr, .ref 421, .int ty, .int nx, .int tk, .int pl, .int va, .int fa, .int (nI c), .int (nI m), .int ss, .int wg, .ref 422, .ref 423, .ref 424, .ref 425, .ref 426, .ref 427, .ref 428, .ref 429, .ref 430, .ref 431, .ref 432, .ref 433]) → h' 422 = .inl (0, 240, .inl G) → h' 426 = .inl (1, 480, .inr (.inl Y)) → EV xs L (d + 2) 0 0 M_X12_makes 434 h' 440 [some (.ref 420), some (.int (nI s)), some (.int (nI i)), some (.int (nI j)), some (.int bt), some (.int le), some (.int no), some (.int (nI n)), some (.int 1), some (.int 1), some (.int 2), some (.int (nI p)), u12, none, u14, none, u16, u17, none, some (.long (oP (fun j => maB bt (64 * p + j)) (64))), none, some (.int (nI 64))] [] Q) (hF : KM [426] h0 h) (h5 : h 420 = .inr (12, [.int th, .long tr, .ref 421, .int ty, .int nx, .int tk, .int pl, .int va, .int fa, .int (nI c), .int (nI m), .int ss, .int wg, .ref 422, .ref 423, .ref 424, .ref 425, .ref 426, .ref 427, .ref 428, .ref 429, .ref 430, .ref 431, .ref 432, .ref 433])) (h22 : h 422 = .inl (0, 240, .inl G)) (h26 : h 426 = .inl (1, 480, .inr (.inl Y))) (hk : k < 64) (ih : ∀ (h' : ev_H), SH h' → KM [426] h0 h' → h' 420 = .inr (12, [.int th, .long tr, .ref 421, .int ty, .int nx, .int tk, .int pl, .int va, .int fa, .int (nI c), .int (nI m), .int ss, .int wg, .ref 422, .ref 423, .ref 424, .ref 425, .ref 426, .ref 427, .ref 428, .ref 429, .ref 430, .ref 431, .ref 432, .ref 433]) → h' 422 = .inl (0, 240, .inl G) → h' 426 = .inl (1, 480, .inr (.inl Y)) → EV xs L (d + 2) 0 0 M_X12_makes 434 h' 400 [some (.ref 420), some (.int (nI s)), some (.int (nI i)), some (.int (nI j)), some (.int bt), some (.int le), some (.int no), some (.int (nI n)), some (.int 1), some (.int 1), some (.int 2), some (.int (nI p)), u12, none, u14, none, u16, u17, none, some (.long (oP (fun j => maB bt (64 * p + j)) (k + 1))), none, some (.int (nI (k + 1)))] [] Q) : EV xs L (d + 2) 0 0 M_X12_makes 434 h 400 [some (.ref 420), some (.int (nI s)), some (.int (nI i)), some (.int (nI j)), some (.int bt), some (.int le), some (.int no), some (.int (nI n)), some (.int 1), some (.int 1), some (.int 2), some (.int (nI p)), u12, none, u14, none, u16, u17, none, some (.long (oP (fun j => maB bt (64 * p + j)) (k))), none, some (.int (nI k))] [] Q := by
  refine r_iload rfl dX12_makes_400 rfl ?_
  refine r_bipush (v := 64) rfl dX12_makes_402 (by decide) ?_
  refine r_icmp_ge (tgt := 440) rfl rfl dX12_makes_404 (fun zc => absurd zc (show ¬ nI (64) ≤ nI k from nI_ge (a := k) (b := 64) (by omega) (by omega))) (fun _ => ?_)
  refine r_lload rfl dX12_makes_407 rfl ?_
  refine r_bipush (v := 64) rfl dX12_makes_409 (by decide) ?_
  refine r_iload rfl dX12_makes_411 rfl ?_
  refine r_imul rfl dX12_makes_413 ?_
  refine r_eqi (y := nI (64 * p)) (show 64 * (nI p) = nI (64 * p) from pk_mul 64 p) ?_
  refine r_iload rfl dX12_makes_414 rfl ?_
  refine r_iadd rfl dX12_makes_416 ?_
  refine r_eqi (y := nI ((64 * p) + k)) (show (nI (64 * p)) + (nI k) = nI ((64 * p) + k) from nI_add (64 * p) k) ?_
  refine r_iload rfl dX12_makes_417 rfl ?_
  refine r_iand rfl dX12_makes_419 ?_
  refine r_if_eq (tgt := 430) rfl rfl dX12_makes_420 (fun c51 => ?_) (fun c51 => ?_)
  · refine r_lconst (v := 0) rfl dX12_makes_430 (by decide) ?_
    refine r_lor rfl dX12_makes_431 ?_
    refine r_topl (fun x52 e53 => ?_)
    refine r_lstore (ls' := [some (.ref 420), some (.int (nI s)), some (.int (nI i)), some (.int (nI j)), some (.int bt), some (.int le), some (.int no), some (.int (nI n)), some (.int 1), some (.int 1), some (.int 2), some (.int (nI p)), u12, none, u14, none, u16, u17, none, some (.long x52), none, some (.int (nI k))]) rfl dX12_makes_432 (Nat.le_of_ble_eq_true rfl) rfl ?_
    refine r_iinc (y := nI (k + 1)) (ls' := [some (.ref 420), some (.int (nI s)), some (.int (nI i)), some (.int (nI j)), some (.int bt), some (.int le), some (.int no), some (.int (nI n)), some (.int 1), some (.int 1), some (.int 2), some (.int (nI p)), u12, none, u14, none, u16, u17, none, some (.long x52), none, some (.int (nI (k + 1)))]) rfl dX12_makes_434 rfl (nI_1 k) (Nat.le_of_ble_eq_true rfl) rfl ?_
    refine r_goto (pc' := 400) rfl dX12_makes_437 ?_
    subst e53
    rw [oP, if_neg (maB_f c51)] at ih
    exact ih h hS hF h5 h22 h26
  · refine r_lconst (v := 1) rfl dX12_makes_423 (by decide) ?_
    refine r_iload rfl dX12_makes_424 rfl ?_
    refine r_lshl rfl dX12_makes_426 ?_
    refine r_goto (pc' := 431) rfl dX12_makes_427 ?_
    refine r_lor rfl dX12_makes_431 ?_
    refine r_topl (fun x54 e55 => ?_)
    refine r_lstore (ls' := [some (.ref 420), some (.int (nI s)), some (.int (nI i)), some (.int (nI j)), some (.int bt), some (.int le), some (.int no), some (.int (nI n)), some (.int 1), some (.int 1), some (.int 2), some (.int (nI p)), u12, none, u14, none, u16, u17, none, some (.long x54), none, some (.int (nI k))]) rfl dX12_makes_432 (Nat.le_of_ble_eq_true rfl) rfl ?_
    refine r_iinc (y := nI (k + 1)) (ls' := [some (.ref 420), some (.int (nI s)), some (.int (nI i)), some (.int (nI j)), some (.int bt), some (.int le), some (.int no), some (.int (nI n)), some (.int 1), some (.int 1), some (.int 2), some (.int (nI p)), u12, none, u14, none, u16, u17, none, some (.long x54), none, some (.int (nI (k + 1)))]) rfl dX12_makes_434 rfl (nI_1 k) (Nat.le_of_ble_eq_true rfl) rfl ?_
    refine r_goto (pc' := 400) rfl dX12_makes_437 ?_
    subst e55
    rw [oP, if_pos (maB_t c51)] at ih
    exact ih h hS hF h5 h22 h26
theorem z_so {xs : Nat → Int32} {L d : Nat} {h0 : ev_H} {th : Int32} {tr : Int64} {ty nx tk pl va fa ss wg : Int32} {c m : Nat} {s i j n : Nat} {bt le no : Int32} {G : Nat → Int32} {Y : Nat → Int64} {Q : ev_Q} {p : Nat} {u12 : Option Value} {u14 : Option Value} {u16 : Option Value} {u17 : Option Value} (hp : p < 4) (kx : ∀ h' : ev_H, SH h' → KM [426] h0 h' → h' 420 = .inr (12, [.int th, .long tr, .ref 421, .int ty, .int nx, .int tk, .int pl, .int va, .int fa, .int (nI c), .int (nI m), .int ss, .int wg, .ref 422, .ref 423, .ref 424, .ref 425, .ref 426, .ref 427, .ref 428, .ref 429, .ref 430, .ref 431, .ref 432, .ref 433]) → h' 422 = .inl (0, 240, .inl G) → h' 426 = .inl (1, 480, .inr (.inl Y)) → EV xs L (d + 2) 0 0 M_X12_makes 434 h' 440 [some (.ref 420), some (.int (nI s)), some (.int (nI i)), some (.int (nI j)), some (.int bt), some (.int le), some (.int no), some (.int (nI n)), some (.int 1), some (.int 1), some (.int 2), some (.int (nI p)), u12, none, u14, none, u16, u17, none, some (.long (oP (fun j => maB bt (64 * p + j)) (64))), none, some (.int (nI 64))] [] Q) : ∀ (nn k : Nat) (h : ev_H), k + nn = 64 → SH h → KM [426] h0 h → h 420 = .inr (12, [.int th, .long tr, .ref 421, .int ty, .int nx, .int tk, .int pl, .int va, .int fa, .int (nI c), .int (nI m), .int ss, .int wg, .ref 422, .ref 423, .ref 424, .ref 425, .ref 426, .ref 427, .ref 428, .ref 429, .ref 430, .ref 431, .ref 432, .ref 433]) → h 422 = .inl (0, 240, .inl G) → h 426 = .inl (1, 480, .inr (.inl Y)) → EV xs L (d + 2) 0 0 M_X12_makes 434 h 400 [some (.ref 420), some (.int (nI s)), some (.int (nI i)), some (.int (nI j)), some (.int bt), some (.int le), some (.int no), some (.int (nI n)), some (.int 1), some (.int 1), some (.int 2), some (.int (nI p)), u12, none, u14, none, u16, u17, none, some (.long (oP (fun j => maB bt (64 * p + j)) (k))), none, some (.int (nI k))] [] Q := by
  intro nn
  induction nn with
  | zero => intro k h hk hS hF h5 h22 h26; exact z_so_z hS hp kx hF h5 h22 h26 (by omega)
  | succ nn ih => intro k h hk hS hF h5 h22 h26; exact z_so_s hS hp kx hF h5 h22 h26 (by omega) (fun h' q0 q1 q2 q3 q4 => ih (k + 1) h' (by omega) q0 q1 q2 q3 q4)
set_option maxRecDepth 20000 in
set_option maxHeartbeats 1000000 in
theorem z_mp110_z {xs : Nat → Int32} {L d : Nat} {h : ev_H} {h0 : ev_H} {th : Int32} {tr : Int64} {ty nx tk pl va fa ss wg : Int32} {c m : Nat} {s i j n : Nat} {bt le no : Int32} {G : Nat → Int32} {Y : Nat → Int64} {Q : ev_Q} {k : Nat} {u12 : Option Value} {u14 : Option Value} {u16 : Option Value} {u17 : Option Value} {u19 : Option Value} {u21 : Option Value} (hS : SH h) (hn : n < 40) (hi : i < n) (hj : j < n) (kx : ∀ (h' : ev_H) (u12 : Option Value) (u14 : Option Value) (u16 : Option Value) (u17 : Option Value) (u19 : Option Value) (u21 : Option Value), SH h' → KM [426] h0 h' → h' 420 = .inr (12, [.int th, .long tr, .ref 421, .int ty, .int nx, .int tk, .int pl, .int va, .int fa, .int (nI c), .int (nI m), .int ss, .int wg, .ref 422, .ref 423, .ref 424, .ref 425, .ref 426, .ref 427, .ref 428, .ref 429, .ref 430, .ref 431, .ref 432, .ref 433]) → h' 422 = .inl (0, 240, .inl G) → h' 426 = .inl (1, 480, .inr (.inl (bkR Y (n) (mkV true true 0 bt Y i j) (4)))) → EV xs L (d + 2) 0 0 M_X12_makes 434 h' 484 [some (.ref 420), some (.int (nI s)), some (.int (nI i)), some (.int (nI j)), some (.int bt), some (.int le), some (.int no), some (.int (nI n)), some (.int 1), some (.int 1), some (.int 0), some (.int (nI 4)), u12, none, u14, none, u16, u17, none, u19, none, u21] [] Q) (hF : KM [426] h0 h) (h5 : h 420 = .inr (12, [.int th, .long tr, .ref 421, .int ty, .int nx, .int tk, .int pl, .int va, .int fa, .int (nI c), .int (nI m), .int ss, .int wg, .ref 422, .ref 423, .ref 424, .ref 425, .ref 426, .ref 427, .ref 428, .ref 429, .ref 430, .ref 431, .ref 432, .ref 433])) (h22 : h 422 = .inl (0, 240, .inl G)) (h26 : h 426 = .inl (1, 480, .inr (.inl (bkR Y (n) (mkV true true 0 bt Y i j) (k))))) (hk : k = 4) : EV xs L (d + 2) 0 0 M_X12_makes 434 h 284 [some (.ref 420), some (.int (nI s)), some (.int (nI i)), some (.int (nI j)), some (.int bt), some (.int le), some (.int no), some (.int (nI n)), some (.int 1), some (.int 1), some (.int 0), some (.int (nI k)), u12, none, u14, none, u16, u17, none, u19, none, u21] [] Q := by
  refine r_iload rfl dX12_makes_284 rfl ?_
  refine r_iconst (v := 4) rfl dX12_makes_286 (by decide) ?_
  refine r_icmp_ge (tgt := 484) rfl rfl dX12_makes_287 (fun _ => ?_) (fun zc => absurd (show nI (4) ≤ nI k from nI_le (a := 4) (b := k) (by omega) (by omega)) zc)
  subst hk
  exact kx h _ _ _ _ _ _ hS hF h5 h22 h26
set_option maxRecDepth 20000 in
set_option maxHeartbeats 1000000 in
theorem z_mp110_s {xs : Nat → Int32} {L d : Nat} {h : ev_H} {h0 : ev_H} {th : Int32} {tr : Int64} {ty nx tk pl va fa ss wg : Int32} {c m : Nat} {s i j n : Nat} {bt le no : Int32} {G : Nat → Int32} {Y : Nat → Int64} {Q : ev_Q} {k : Nat} {u12 : Option Value} {u14 : Option Value} {u16 : Option Value} {u17 : Option Value} {u19 : Option Value} {u21 : Option Value} (hS : SH h) (hn : n < 40) (hi : i < n) (hj : j < n) (kx : ∀ (h' : ev_H) (u12 : Option Value) (u14 : Option Value) (u16 : Option Value) (u17 : Option Value) (u19 : Option Value) (u21 : Option Value), SH h' → KM [426] h0 h' → h' 420 = .inr (12, [.int th, .long tr, .ref 421, .int ty, .int nx, .int tk, .int pl, .int va, .int fa, .int (nI c), .int (nI m), .int ss, .int wg, .ref 422, .ref 423, .ref 424, .ref 425, .ref 426, .ref 427, .ref 428, .ref 429, .ref 430, .ref 431, .ref 432, .ref 433]) → h' 422 = .inl (0, 240, .inl G) → h' 426 = .inl (1, 480, .inr (.inl (bkR Y (n) (mkV true true 0 bt Y i j) (4)))) → EV xs L (d + 2) 0 0 M_X12_makes 434 h' 484 [some (.ref 420), some (.int (nI s)), some (.int (nI i)), some (.int (nI j)), some (.int bt), some (.int le), some (.int no), some (.int (nI n)), some (.int 1), some (.int 1), some (.int 0), some (.int (nI 4)), u12, none, u14, none, u16, u17, none, u19, none, u21] [] Q) (hF : KM [426] h0 h) (h5 : h 420 = .inr (12, [.int th, .long tr, .ref 421, .int ty, .int nx, .int tk, .int pl, .int va, .int fa, .int (nI c), .int (nI m), .int ss, .int wg, .ref 422, .ref 423, .ref 424, .ref 425, .ref 426, .ref 427, .ref 428, .ref 429, .ref 430, .ref 431, .ref 432, .ref 433])) (h22 : h 422 = .inl (0, 240, .inl G)) (h26 : h 426 = .inl (1, 480, .inr (.inl (bkR Y (n) (mkV true true 0 bt Y i j) (k))))) (hk : k < 4) (ih : ∀ (h' : ev_H) (u12' : Option Value) (u14' : Option Value) (u16' : Option Value) (u17' : Option Value) (u19' : Option Value) (u21' : Option Value), SH h' → KM [426] h0 h' → h' 420 = .inr (12, [.int th, .long tr, .ref 421, .int ty, .int nx, .int tk, .int pl, .int va, .int fa, .int (nI c), .int (nI m), .int ss, .int wg, .ref 422, .ref 423, .ref 424, .ref 425, .ref 426, .ref 427, .ref 428, .ref 429, .ref 430, .ref 431, .ref 432, .ref 433]) → h' 422 = .inl (0, 240, .inl G) → h' 426 = .inl (1, 480, .inr (.inl (bkR Y (n) (mkV true true 0 bt Y i j) (k + 1)))) → EV xs L (d + 2) 0 0 M_X12_makes 434 h' 284 [some (.ref 420), some (.int (nI s)), some (.int (nI i)), some (.int (nI j)), some (.int bt), some (.int le), some (.int no), some (.int (nI n)), some (.int 1), some (.int 1), some (.int 0), some (.int (nI (k + 1))), u12', none, u14', none, u16', u17', none, u19', none, u21'] [] Q) : EV xs L (d + 2) 0 0 M_X12_makes 434 h 284 [some (.ref 420), some (.int (nI s)), some (.int (nI i)), some (.int (nI j)), some (.int bt), some (.int le), some (.int no), some (.int (nI n)), some (.int 1), some (.int 1), some (.int 0), some (.int (nI k)), u12, none, u14, none, u16, u17, none, u19, none, u21] [] Q := by
  refine r_iload rfl dX12_makes_284 rfl ?_
  refine r_iconst (v := 4) rfl dX12_makes_286 (by decide) ?_
  refine r_icmp_ge (tgt := 484) rfl rfl dX12_makes_287 (fun zc => absurd zc (show ¬ nI (4) ≤ nI k from nI_ge (a := k) (b := 4) (by omega) (by omega))) (fun _ => ?_)
  refine r_aload_n rfl dX12_makes_290 rfl ?_
  refine r_getv 17 rfl dX12_makes_291 (show 2 ≤ 420 ∧ 420 < 434 by decide) h5 fl_X12_30 rfl ?_
  refine r_sipush (v := 160) rfl dX12_makes_294 (by decide) ?_
  refine r_iload rfl dX12_makes_297 rfl ?_
  refine r_imul rfl dX12_makes_299 ?_
  refine r_eqi (y := 0) (by decide) ?_
  refine r_iconst (v := 4) rfl dX12_makes_300 (by decide) ?_
  refine r_iload_n rfl dX12_makes_301 rfl ?_
  refine r_imul rfl dX12_makes_302 ?_
  refine r_eqi (y := nI (4 * i)) (show 4 * (nI i) = nI (4 * i) from pk_mul 4 i) ?_
  refine r_iadd rfl dX12_makes_303 ?_
  refine r_eqi (y := nI (0 + (4 * i))) (show 0 + (nI (4 * i)) = nI (0 + (4 * i)) from nI_add 0 (4 * i)) ?_
  refine r_iload rfl dX12_makes_304 rfl ?_
  refine r_iadd rfl dX12_makes_306 ?_
  refine r_eqi (y := nI ((0 + (4 * i)) + k)) (show (nI (0 + (4 * i))) + (nI k) = nI ((0 + (4 * i)) + k) from nI_add (0 + (4 * i)) k) ?_
  refine r_laldv (jn := (0 + (4 * i)) + k) (v := Y ((0 + (4 * i)) + k)) rfl dX12_makes_307 (show 2 ≤ 426 ∧ 426 < 434 by decide) h26 (vp_in_nI (n := (0 + (4 * i)) + k) (by omega) (by decide)) (nI_clamp (n := (0 + (4 * i)) + k) (by omega)) (bkR_n (by omega)) ?_
  refine r_topl (fun x51 e52 => ?_)
  refine r_lstore (ls' := [some (.ref 420), some (.int (nI s)), some (.int (nI i)), some (.int (nI j)), some (.int bt), some (.int le), some (.int no), some (.int (nI n)), some (.int 1), some (.int 1), some (.int 0), some (.int (nI k)), some (.long x51), none, u14, none, u16, u17, none, u19, none, u21]) rfl dX12_makes_308 (Nat.le_of_ble_eq_true rfl) rfl ?_
  refine r_aload_n rfl dX12_makes_310 rfl ?_
  refine r_getv 17 rfl dX12_makes_311 (show 2 ≤ 420 ∧ 420 < 434 by decide) h5 fl_X12_30 rfl ?_
  refine r_sipush (v := 160) rfl dX12_makes_314 (by decide) ?_
  refine r_iload rfl dX12_makes_317 rfl ?_
  refine r_imul rfl dX12_makes_319 ?_
  refine r_eqi (y := 0) (by decide) ?_
  refine r_iconst (v := 4) rfl dX12_makes_320 (by decide) ?_
  refine r_iload_n rfl dX12_makes_321 rfl ?_
  refine r_imul rfl dX12_makes_322 ?_
  refine r_eqi (y := nI (4 * j)) (show 4 * (nI j) = nI (4 * j) from pk_mul 4 j) ?_
  refine r_iadd rfl dX12_makes_323 ?_
  refine r_eqi (y := nI (0 + (4 * j))) (show 0 + (nI (4 * j)) = nI (0 + (4 * j)) from nI_add 0 (4 * j)) ?_
  refine r_iload rfl dX12_makes_324 rfl ?_
  refine r_iadd rfl dX12_makes_326 ?_
  refine r_eqi (y := nI ((0 + (4 * j)) + k)) (show (nI (0 + (4 * j))) + (nI k) = nI ((0 + (4 * j)) + k) from nI_add (0 + (4 * j)) k) ?_
  refine r_laldv (jn := (0 + (4 * j)) + k) (v := Y ((0 + (4 * j)) + k)) rfl dX12_makes_327 (show 2 ≤ 426 ∧ 426 < 434 by decide) h26 (vp_in_nI (n := (0 + (4 * j)) + k) (by omega) (by decide)) (nI_clamp (n := (0 + (4 * j)) + k) (by omega)) (bkR_n (by omega)) ?_
  refine r_topl (fun x53 e54 => ?_)
  refine r_lstore (ls' := [some (.ref 420), some (.int (nI s)), some (.int (nI i)), some (.int (nI j)), some (.int bt), some (.int le), some (.int no), some (.int (nI n)), some (.int 1), some (.int 1), some (.int 0), some (.int (nI k)), some (.long x51), none, some (.long x53), none, u16, u17, none, u19, none, u21]) rfl dX12_makes_328 (Nat.le_of_ble_eq_true rfl) rfl ?_
  refine r_iload rfl dX12_makes_330 rfl ?_
  refine r_iconst (v := 1) rfl dX12_makes_332 (by decide) ?_
  refine r_icmp_ne (tgt := 341) rfl rfl dX12_makes_333 (fun _ => ?_) (fun zc => absurd zc (by decide))
  refine r_iload rfl dX12_makes_341 rfl ?_
  refine r_if_eq (tgt := 355) rfl rfl dX12_makes_343 (fun zc => absurd zc (by decide)) (fun _ => ?_)
  refine r_iload rfl dX12_makes_346 rfl ?_
  refine r_if_ne (tgt := 355) rfl rfl dX12_makes_348 (fun _ => ?_) (fun zc => absurd zc (by decide))
  refine r_iconst (v := 0) rfl dX12_makes_355 (by decide) ?_
  refine r_istore (ls' := [some (.ref 420), some (.int (nI s)), some (.int (nI i)), some (.int (nI j)), some (.int bt), some (.int le), some (.int no), some (.int (nI n)), some (.int 1), some (.int 1), some (.int 0), some (.int (nI k)), some (.long x51), none, some (.long x53), none, some (.int 0), u17, none, u19, none, u21]) rfl dX12_makes_356 (Nat.le_of_ble_eq_true rfl) rfl ?_
  refine r_iload rfl dX12_makes_358 rfl ?_
  refine r_if_eq (tgt := 371) rfl rfl dX12_makes_360 (fun _ => ?_) (fun zc => absurd zc (by decide))
  refine r_lload rfl dX12_makes_371 rfl ?_
  refine r_lload rfl dX12_makes_373 rfl ?_
  refine r_land rfl dX12_makes_375 ?_
  refine r_topl (fun x55 e56 => ?_)
  refine r_lstore (ls' := [some (.ref 420), some (.int (nI s)), some (.int (nI i)), some (.int (nI j)), some (.int bt), some (.int le), some (.int no), some (.int (nI n)), some (.int 1), some (.int 1), some (.int 0), some (.int (nI k)), some (.long x51), none, some (.long x53), none, some (.int 0), some (.long x55), none, u19, none, u21]) rfl dX12_makes_376 (Nat.le_of_ble_eq_true rfl) rfl ?_
  refine r_iload rfl dX12_makes_378 rfl ?_
  refine r_iconst (v := 2) rfl dX12_makes_380 (by decide) ?_
  refine r_icmp_ne (tgt := 457) rfl rfl dX12_makes_381 (fun _ => ?_) (fun zc => absurd zc (by decide))
  refine r_aload_n rfl dX12_makes_457 rfl ?_
  refine r_getv 17 rfl dX12_makes_458 (show 2 ≤ 420 ∧ 420 < 434 by decide) h5 fl_X12_30 rfl ?_
  refine r_sipush (v := 160) rfl dX12_makes_461 (by decide) ?_
  refine r_iload rfl dX12_makes_464 rfl ?_
  refine r_imul rfl dX12_makes_466 ?_
  refine r_eqi (y := 0) (by decide) ?_
  refine r_iconst (v := 4) rfl dX12_makes_467 (by decide) ?_
  refine r_iload rfl dX12_makes_468 rfl ?_
  refine r_imul rfl dX12_makes_470 ?_
  refine r_eqi (y := nI (4 * n)) (show 4 * (nI n) = nI (4 * n) from pk_mul 4 n) ?_
  refine r_iadd rfl dX12_makes_471 ?_
  refine r_eqi (y := nI (0 + (4 * n))) (show 0 + (nI (4 * n)) = nI (0 + (4 * n)) from nI_add 0 (4 * n)) ?_
  refine r_iload rfl dX12_makes_472 rfl ?_
  refine r_iadd rfl dX12_makes_474 ?_
  refine r_eqi (y := nI ((0 + (4 * n)) + k)) (show (nI (0 + (4 * n))) + (nI k) = nI ((0 + (4 * n)) + k) from nI_add (0 + (4 * n)) k) ?_
  refine r_lload rfl dX12_makes_475 rfl ?_
  refine e_last (jn := (0 + (4 * n)) + k) rfl dX12_makes_477 (show 2 ≤ 426 ∧ 426 < 434 by decide) hS hF (by decide) h26 (vp_in_nI (n := (0 + (4 * n)) + k) (by omega) (by decide)) (nI_clamp (n := (0 + (4 * n)) + k) (by omega)) (fun h57 hS58 hF59 hN60 f61 => ?_)
  have f62 : h57 420 = .inr (12, [.int th, .long tr, .ref 421, .int ty, .int nx, .int tk, .int pl, .int va, .int fa, .int (nI c), .int (nI m), .int ss, .int wg, .ref 422, .ref 423, .ref 424, .ref 425, .ref 426, .ref 427, .ref 428, .ref 429, .ref 430, .ref 431, .ref 432, .ref 433]) := (hN60 420 (by decide)).trans h5
  have f63 : h57 422 = .inl (0, 240, .inl G) := (hN60 422 (by decide)).trans h22
  refine r_iinc (y := nI (k + 1)) (ls' := [some (.ref 420), some (.int (nI s)), some (.int (nI i)), some (.int (nI j)), some (.int bt), some (.int le), some (.int no), some (.int (nI n)), some (.int 1), some (.int 1), some (.int 0), some (.int (nI (k + 1))), some (.long x51), none, some (.long x53), none, some (.int 0), some (.long x55), none, u19, none, u21]) rfl dX12_makes_478 rfl (nI_1 k) (Nat.le_of_ble_eq_true rfl) rfl ?_
  refine r_goto (pc' := 284) rfl dX12_makes_481 ?_
  subst e56
  subst e54
  subst e52
  exact ih h57 _ _ _ _ _ _ hS58 hF59 f62 f63 (by rw [← bkR_s, show 4 * (n) + k = (0 + (4 * n)) + k by omega]; exact f61)
theorem z_mp110 {xs : Nat → Int32} {L d : Nat} {h0 : ev_H} {th : Int32} {tr : Int64} {ty nx tk pl va fa ss wg : Int32} {c m : Nat} {s i j n : Nat} {bt le no : Int32} {G : Nat → Int32} {Y : Nat → Int64} {Q : ev_Q} (hn : n < 40) (hi : i < n) (hj : j < n) (kx : ∀ (h' : ev_H) (u12 : Option Value) (u14 : Option Value) (u16 : Option Value) (u17 : Option Value) (u19 : Option Value) (u21 : Option Value), SH h' → KM [426] h0 h' → h' 420 = .inr (12, [.int th, .long tr, .ref 421, .int ty, .int nx, .int tk, .int pl, .int va, .int fa, .int (nI c), .int (nI m), .int ss, .int wg, .ref 422, .ref 423, .ref 424, .ref 425, .ref 426, .ref 427, .ref 428, .ref 429, .ref 430, .ref 431, .ref 432, .ref 433]) → h' 422 = .inl (0, 240, .inl G) → h' 426 = .inl (1, 480, .inr (.inl (bkR Y (n) (mkV true true 0 bt Y i j) (4)))) → EV xs L (d + 2) 0 0 M_X12_makes 434 h' 484 [some (.ref 420), some (.int (nI s)), some (.int (nI i)), some (.int (nI j)), some (.int bt), some (.int le), some (.int no), some (.int (nI n)), some (.int 1), some (.int 1), some (.int 0), some (.int (nI 4)), u12, none, u14, none, u16, u17, none, u19, none, u21] [] Q) : ∀ (nn k : Nat) (h : ev_H) (u12 : Option Value) (u14 : Option Value) (u16 : Option Value) (u17 : Option Value) (u19 : Option Value) (u21 : Option Value), k + nn = 4 → SH h → KM [426] h0 h → h 420 = .inr (12, [.int th, .long tr, .ref 421, .int ty, .int nx, .int tk, .int pl, .int va, .int fa, .int (nI c), .int (nI m), .int ss, .int wg, .ref 422, .ref 423, .ref 424, .ref 425, .ref 426, .ref 427, .ref 428, .ref 429, .ref 430, .ref 431, .ref 432, .ref 433]) → h 422 = .inl (0, 240, .inl G) → h 426 = .inl (1, 480, .inr (.inl (bkR Y (n) (mkV true true 0 bt Y i j) (k)))) → EV xs L (d + 2) 0 0 M_X12_makes 434 h 284 [some (.ref 420), some (.int (nI s)), some (.int (nI i)), some (.int (nI j)), some (.int bt), some (.int le), some (.int no), some (.int (nI n)), some (.int 1), some (.int 1), some (.int 0), some (.int (nI k)), u12, none, u14, none, u16, u17, none, u19, none, u21] [] Q := by
  intro nn
  induction nn with
  | zero => intro k h u12 u14 u16 u17 u19 u21 hk hS hF h5 h22 h26; exact z_mp110_z hS hn hi hj kx hF h5 h22 h26 (by omega)
  | succ nn ih => intro k h u12 u14 u16 u17 u19 u21 hk hS hF h5 h22 h26; exact z_mp110_s hS hn hi hj kx hF h5 h22 h26 (by omega) (fun h' u12 u14 u16 u17 u19 u21 q0 q1 q2 q3 q4 => ih (k + 1) h' u12 u14 u16 u17 u19 u21 (by omega) q0 q1 q2 q3 q4)
set_option maxRecDepth 20000 in
set_option maxHeartbeats 1000000 in
theorem z_mp111_z {xs : Nat → Int32} {L d : Nat} {h : ev_H} {h0 : ev_H} {th : Int32} {tr : Int64} {ty nx tk pl va fa ss wg : Int32} {c m : Nat} {s i j n : Nat} {bt le no : Int32} {G : Nat → Int32} {Y : Nat → Int64} {Q : ev_Q} {k : Nat} {u12 : Option Value} {u14 : Option Value} {u16 : Option Value} {u17 : Option Value} {u19 : Option Value} {u21 : Option Value} (hS : SH h) (hn : n < 40) (hi : i < n) (hj : j < n) (kx : ∀ (h' : ev_H) (u12 : Option Value) (u14 : Option Value) (u16 : Option Value) (u17 : Option Value) (u19 : Option Value) (u21 : Option Value), SH h' → KM [426] h0 h' → h' 420 = .inr (12, [.int th, .long tr, .ref 421, .int ty, .int nx, .int tk, .int pl, .int va, .int fa, .int (nI c), .int (nI m), .int ss, .int wg, .ref 422, .ref 423, .ref 424, .ref 425, .ref 426, .ref 427, .ref 428, .ref 429, .ref 430, .ref 431, .ref 432, .ref 433]) → h' 422 = .inl (0, 240, .inl G) → h' 426 = .inl (1, 480, .inr (.inl (bkR Y (40 + n) (mkV true true 1 bt Y i j) (4)))) → EV xs L (d + 2) 0 0 M_X12_makes 434 h' 484 [some (.ref 420), some (.int (nI s)), some (.int (nI i)), some (.int (nI j)), some (.int bt), some (.int le), some (.int no), some (.int (nI n)), some (.int 1), some (.int 1), some (.int 1), some (.int (nI 4)), u12, none, u14, none, u16, u17, none, u19, none, u21] [] Q) (hF : KM [426] h0 h) (h5 : h 420 = .inr (12, [.int th, .long tr, .ref 421, .int ty, .int nx, .int tk, .int pl, .int va, .int fa, .int (nI c), .int (nI m), .int ss, .int wg, .ref 422, .ref 423, .ref 424, .ref 425, .ref 426, .ref 427, .ref 428, .ref 429, .ref 430, .ref 431, .ref 432, .ref 433])) (h22 : h 422 = .inl (0, 240, .inl G)) (h26 : h 426 = .inl (1, 480, .inr (.inl (bkR Y (40 + n) (mkV true true 1 bt Y i j) (k))))) (hk : k = 4) : EV xs L (d + 2) 0 0 M_X12_makes 434 h 284 [some (.ref 420), some (.int (nI s)), some (.int (nI i)), some (.int (nI j)), some (.int bt), some (.int le), some (.int no), some (.int (nI n)), some (.int 1), some (.int 1), some (.int 1), some (.int (nI k)), u12, none, u14, none, u16, u17, none, u19, none, u21] [] Q := by
  refine r_iload rfl dX12_makes_284 rfl ?_
  refine r_iconst (v := 4) rfl dX12_makes_286 (by decide) ?_
  refine r_icmp_ge (tgt := 484) rfl rfl dX12_makes_287 (fun _ => ?_) (fun zc => absurd (show nI (4) ≤ nI k from nI_le (a := 4) (b := k) (by omega) (by omega)) zc)
  subst hk
  exact kx h _ _ _ _ _ _ hS hF h5 h22 h26
set_option maxRecDepth 20000 in
set_option maxHeartbeats 1000000 in
theorem z_mp111_s {xs : Nat → Int32} {L d : Nat} {h : ev_H} {h0 : ev_H} {th : Int32} {tr : Int64} {ty nx tk pl va fa ss wg : Int32} {c m : Nat} {s i j n : Nat} {bt le no : Int32} {G : Nat → Int32} {Y : Nat → Int64} {Q : ev_Q} {k : Nat} {u12 : Option Value} {u14 : Option Value} {u16 : Option Value} {u17 : Option Value} {u19 : Option Value} {u21 : Option Value} (hS : SH h) (hn : n < 40) (hi : i < n) (hj : j < n) (kx : ∀ (h' : ev_H) (u12 : Option Value) (u14 : Option Value) (u16 : Option Value) (u17 : Option Value) (u19 : Option Value) (u21 : Option Value), SH h' → KM [426] h0 h' → h' 420 = .inr (12, [.int th, .long tr, .ref 421, .int ty, .int nx, .int tk, .int pl, .int va, .int fa, .int (nI c), .int (nI m), .int ss, .int wg, .ref 422, .ref 423, .ref 424, .ref 425, .ref 426, .ref 427, .ref 428, .ref 429, .ref 430, .ref 431, .ref 432, .ref 433]) → h' 422 = .inl (0, 240, .inl G) → h' 426 = .inl (1, 480, .inr (.inl (bkR Y (40 + n) (mkV true true 1 bt Y i j) (4)))) → EV xs L (d + 2) 0 0 M_X12_makes 434 h' 484 [some (.ref 420), some (.int (nI s)), some (.int (nI i)), some (.int (nI j)), some (.int bt), some (.int le), some (.int no), some (.int (nI n)), some (.int 1), some (.int 1), some (.int 1), some (.int (nI 4)), u12, none, u14, none, u16, u17, none, u19, none, u21] [] Q) (hF : KM [426] h0 h) (h5 : h 420 = .inr (12, [.int th, .long tr, .ref 421, .int ty, .int nx, .int tk, .int pl, .int va, .int fa, .int (nI c), .int (nI m), .int ss, .int wg, .ref 422, .ref 423, .ref 424, .ref 425, .ref 426, .ref 427, .ref 428, .ref 429, .ref 430, .ref 431, .ref 432, .ref 433])) (h22 : h 422 = .inl (0, 240, .inl G)) (h26 : h 426 = .inl (1, 480, .inr (.inl (bkR Y (40 + n) (mkV true true 1 bt Y i j) (k))))) (hk : k < 4) (ih : ∀ (h' : ev_H) (u12' : Option Value) (u14' : Option Value) (u16' : Option Value) (u17' : Option Value) (u19' : Option Value) (u21' : Option Value), SH h' → KM [426] h0 h' → h' 420 = .inr (12, [.int th, .long tr, .ref 421, .int ty, .int nx, .int tk, .int pl, .int va, .int fa, .int (nI c), .int (nI m), .int ss, .int wg, .ref 422, .ref 423, .ref 424, .ref 425, .ref 426, .ref 427, .ref 428, .ref 429, .ref 430, .ref 431, .ref 432, .ref 433]) → h' 422 = .inl (0, 240, .inl G) → h' 426 = .inl (1, 480, .inr (.inl (bkR Y (40 + n) (mkV true true 1 bt Y i j) (k + 1)))) → EV xs L (d + 2) 0 0 M_X12_makes 434 h' 284 [some (.ref 420), some (.int (nI s)), some (.int (nI i)), some (.int (nI j)), some (.int bt), some (.int le), some (.int no), some (.int (nI n)), some (.int 1), some (.int 1), some (.int 1), some (.int (nI (k + 1))), u12', none, u14', none, u16', u17', none, u19', none, u21'] [] Q) : EV xs L (d + 2) 0 0 M_X12_makes 434 h 284 [some (.ref 420), some (.int (nI s)), some (.int (nI i)), some (.int (nI j)), some (.int bt), some (.int le), some (.int no), some (.int (nI n)), some (.int 1), some (.int 1), some (.int 1), some (.int (nI k)), u12, none, u14, none, u16, u17, none, u19, none, u21] [] Q := by
  refine r_iload rfl dX12_makes_284 rfl ?_
  refine r_iconst (v := 4) rfl dX12_makes_286 (by decide) ?_
  refine r_icmp_ge (tgt := 484) rfl rfl dX12_makes_287 (fun zc => absurd zc (show ¬ nI (4) ≤ nI k from nI_ge (a := k) (b := 4) (by omega) (by omega))) (fun _ => ?_)
  refine r_aload_n rfl dX12_makes_290 rfl ?_
  refine r_getv 17 rfl dX12_makes_291 (show 2 ≤ 420 ∧ 420 < 434 by decide) h5 fl_X12_30 rfl ?_
  refine r_sipush (v := 160) rfl dX12_makes_294 (by decide) ?_
  refine r_iload rfl dX12_makes_297 rfl ?_
  refine r_imul rfl dX12_makes_299 ?_
  refine r_eqi (y := 160) (by decide) ?_
  refine r_iconst (v := 4) rfl dX12_makes_300 (by decide) ?_
  refine r_iload_n rfl dX12_makes_301 rfl ?_
  refine r_imul rfl dX12_makes_302 ?_
  refine r_eqi (y := nI (4 * i)) (show 4 * (nI i) = nI (4 * i) from pk_mul 4 i) ?_
  refine r_iadd rfl dX12_makes_303 ?_
  refine r_eqi (y := nI (160 + (4 * i))) (show 160 + (nI (4 * i)) = nI (160 + (4 * i)) from nI_add 160 (4 * i)) ?_
  refine r_iload rfl dX12_makes_304 rfl ?_
  refine r_iadd rfl dX12_makes_306 ?_
  refine r_eqi (y := nI ((160 + (4 * i)) + k)) (show (nI (160 + (4 * i))) + (nI k) = nI ((160 + (4 * i)) + k) from nI_add (160 + (4 * i)) k) ?_
  refine r_laldv (jn := (160 + (4 * i)) + k) (v := Y ((160 + (4 * i)) + k)) rfl dX12_makes_307 (show 2 ≤ 426 ∧ 426 < 434 by decide) h26 (vp_in_nI (n := (160 + (4 * i)) + k) (by omega) (by decide)) (nI_clamp (n := (160 + (4 * i)) + k) (by omega)) (bkR_n (by omega)) ?_
  refine r_topl (fun x51 e52 => ?_)
  refine r_lstore (ls' := [some (.ref 420), some (.int (nI s)), some (.int (nI i)), some (.int (nI j)), some (.int bt), some (.int le), some (.int no), some (.int (nI n)), some (.int 1), some (.int 1), some (.int 1), some (.int (nI k)), some (.long x51), none, u14, none, u16, u17, none, u19, none, u21]) rfl dX12_makes_308 (Nat.le_of_ble_eq_true rfl) rfl ?_
  refine r_aload_n rfl dX12_makes_310 rfl ?_
  refine r_getv 17 rfl dX12_makes_311 (show 2 ≤ 420 ∧ 420 < 434 by decide) h5 fl_X12_30 rfl ?_
  refine r_sipush (v := 160) rfl dX12_makes_314 (by decide) ?_
  refine r_iload rfl dX12_makes_317 rfl ?_
  refine r_imul rfl dX12_makes_319 ?_
  refine r_eqi (y := 160) (by decide) ?_
  refine r_iconst (v := 4) rfl dX12_makes_320 (by decide) ?_
  refine r_iload_n rfl dX12_makes_321 rfl ?_
  refine r_imul rfl dX12_makes_322 ?_
  refine r_eqi (y := nI (4 * j)) (show 4 * (nI j) = nI (4 * j) from pk_mul 4 j) ?_
  refine r_iadd rfl dX12_makes_323 ?_
  refine r_eqi (y := nI (160 + (4 * j))) (show 160 + (nI (4 * j)) = nI (160 + (4 * j)) from nI_add 160 (4 * j)) ?_
  refine r_iload rfl dX12_makes_324 rfl ?_
  refine r_iadd rfl dX12_makes_326 ?_
  refine r_eqi (y := nI ((160 + (4 * j)) + k)) (show (nI (160 + (4 * j))) + (nI k) = nI ((160 + (4 * j)) + k) from nI_add (160 + (4 * j)) k) ?_
  refine r_laldv (jn := (160 + (4 * j)) + k) (v := Y ((160 + (4 * j)) + k)) rfl dX12_makes_327 (show 2 ≤ 426 ∧ 426 < 434 by decide) h26 (vp_in_nI (n := (160 + (4 * j)) + k) (by omega) (by decide)) (nI_clamp (n := (160 + (4 * j)) + k) (by omega)) (bkR_n (by omega)) ?_
  refine r_topl (fun x53 e54 => ?_)
  refine r_lstore (ls' := [some (.ref 420), some (.int (nI s)), some (.int (nI i)), some (.int (nI j)), some (.int bt), some (.int le), some (.int no), some (.int (nI n)), some (.int 1), some (.int 1), some (.int 1), some (.int (nI k)), some (.long x51), none, some (.long x53), none, u16, u17, none, u19, none, u21]) rfl dX12_makes_328 (Nat.le_of_ble_eq_true rfl) rfl ?_
  refine r_iload rfl dX12_makes_330 rfl ?_
  refine r_iconst (v := 1) rfl dX12_makes_332 (by decide) ?_
  refine r_icmp_ne (tgt := 341) rfl rfl dX12_makes_333 (fun zc => absurd zc (by decide)) (fun _ => ?_)
  refine r_iload rfl dX12_makes_336 rfl ?_
  refine r_goto (pc' := 356) rfl dX12_makes_338 ?_
  refine r_istore (ls' := [some (.ref 420), some (.int (nI s)), some (.int (nI i)), some (.int (nI j)), some (.int bt), some (.int le), some (.int no), some (.int (nI n)), some (.int 1), some (.int 1), some (.int 1), some (.int (nI k)), some (.long x51), none, some (.long x53), none, some (.int 1), u17, none, u19, none, u21]) rfl dX12_makes_356 (Nat.le_of_ble_eq_true rfl) rfl ?_
  refine r_iload rfl dX12_makes_358 rfl ?_
  refine r_if_eq (tgt := 371) rfl rfl dX12_makes_360 (fun zc => absurd zc (by decide)) (fun _ => ?_)
  refine r_lload rfl dX12_makes_363 rfl ?_
  refine r_lload rfl dX12_makes_365 rfl ?_
  refine r_lor rfl dX12_makes_367 ?_
  refine r_goto (pc' := 376) rfl dX12_makes_368 ?_
  refine r_topl (fun x55 e56 => ?_)
  refine r_lstore (ls' := [some (.ref 420), some (.int (nI s)), some (.int (nI i)), some (.int (nI j)), some (.int bt), some (.int le), some (.int no), some (.int (nI n)), some (.int 1), some (.int 1), some (.int 1), some (.int (nI k)), some (.long x51), none, some (.long x53), none, some (.int 1), some (.long x55), none, u19, none, u21]) rfl dX12_makes_376 (Nat.le_of_ble_eq_true rfl) rfl ?_
  refine r_iload rfl dX12_makes_378 rfl ?_
  refine r_iconst (v := 2) rfl dX12_makes_380 (by decide) ?_
  refine r_icmp_ne (tgt := 457) rfl rfl dX12_makes_381 (fun _ => ?_) (fun zc => absurd zc (by decide))
  refine r_aload_n rfl dX12_makes_457 rfl ?_
  refine r_getv 17 rfl dX12_makes_458 (show 2 ≤ 420 ∧ 420 < 434 by decide) h5 fl_X12_30 rfl ?_
  refine r_sipush (v := 160) rfl dX12_makes_461 (by decide) ?_
  refine r_iload rfl dX12_makes_464 rfl ?_
  refine r_imul rfl dX12_makes_466 ?_
  refine r_eqi (y := 160) (by decide) ?_
  refine r_iconst (v := 4) rfl dX12_makes_467 (by decide) ?_
  refine r_iload rfl dX12_makes_468 rfl ?_
  refine r_imul rfl dX12_makes_470 ?_
  refine r_eqi (y := nI (4 * n)) (show 4 * (nI n) = nI (4 * n) from pk_mul 4 n) ?_
  refine r_iadd rfl dX12_makes_471 ?_
  refine r_eqi (y := nI (160 + (4 * n))) (show 160 + (nI (4 * n)) = nI (160 + (4 * n)) from nI_add 160 (4 * n)) ?_
  refine r_iload rfl dX12_makes_472 rfl ?_
  refine r_iadd rfl dX12_makes_474 ?_
  refine r_eqi (y := nI ((160 + (4 * n)) + k)) (show (nI (160 + (4 * n))) + (nI k) = nI ((160 + (4 * n)) + k) from nI_add (160 + (4 * n)) k) ?_
  refine r_lload rfl dX12_makes_475 rfl ?_
  refine e_last (jn := (160 + (4 * n)) + k) rfl dX12_makes_477 (show 2 ≤ 426 ∧ 426 < 434 by decide) hS hF (by decide) h26 (vp_in_nI (n := (160 + (4 * n)) + k) (by omega) (by decide)) (nI_clamp (n := (160 + (4 * n)) + k) (by omega)) (fun h57 hS58 hF59 hN60 f61 => ?_)
  have f62 : h57 420 = .inr (12, [.int th, .long tr, .ref 421, .int ty, .int nx, .int tk, .int pl, .int va, .int fa, .int (nI c), .int (nI m), .int ss, .int wg, .ref 422, .ref 423, .ref 424, .ref 425, .ref 426, .ref 427, .ref 428, .ref 429, .ref 430, .ref 431, .ref 432, .ref 433]) := (hN60 420 (by decide)).trans h5
  have f63 : h57 422 = .inl (0, 240, .inl G) := (hN60 422 (by decide)).trans h22
  refine r_iinc (y := nI (k + 1)) (ls' := [some (.ref 420), some (.int (nI s)), some (.int (nI i)), some (.int (nI j)), some (.int bt), some (.int le), some (.int no), some (.int (nI n)), some (.int 1), some (.int 1), some (.int 1), some (.int (nI (k + 1))), some (.long x51), none, some (.long x53), none, some (.int 1), some (.long x55), none, u19, none, u21]) rfl dX12_makes_478 rfl (nI_1 k) (Nat.le_of_ble_eq_true rfl) rfl ?_
  refine r_goto (pc' := 284) rfl dX12_makes_481 ?_
  subst e56
  subst e54
  subst e52
  exact ih h57 _ _ _ _ _ _ hS58 hF59 f62 f63 (by rw [← bkR_s, show 4 * (40 + n) + k = (160 + (4 * n)) + k by omega]; exact f61)
theorem z_mp111 {xs : Nat → Int32} {L d : Nat} {h0 : ev_H} {th : Int32} {tr : Int64} {ty nx tk pl va fa ss wg : Int32} {c m : Nat} {s i j n : Nat} {bt le no : Int32} {G : Nat → Int32} {Y : Nat → Int64} {Q : ev_Q} (hn : n < 40) (hi : i < n) (hj : j < n) (kx : ∀ (h' : ev_H) (u12 : Option Value) (u14 : Option Value) (u16 : Option Value) (u17 : Option Value) (u19 : Option Value) (u21 : Option Value), SH h' → KM [426] h0 h' → h' 420 = .inr (12, [.int th, .long tr, .ref 421, .int ty, .int nx, .int tk, .int pl, .int va, .int fa, .int (nI c), .int (nI m), .int ss, .int wg, .ref 422, .ref 423, .ref 424, .ref 425, .ref 426, .ref 427, .ref 428, .ref 429, .ref 430, .ref 431, .ref 432, .ref 433]) → h' 422 = .inl (0, 240, .inl G) → h' 426 = .inl (1, 480, .inr (.inl (bkR Y (40 + n) (mkV true true 1 bt Y i j) (4)))) → EV xs L (d + 2) 0 0 M_X12_makes 434 h' 484 [some (.ref 420), some (.int (nI s)), some (.int (nI i)), some (.int (nI j)), some (.int bt), some (.int le), some (.int no), some (.int (nI n)), some (.int 1), some (.int 1), some (.int 1), some (.int (nI 4)), u12, none, u14, none, u16, u17, none, u19, none, u21] [] Q) : ∀ (nn k : Nat) (h : ev_H) (u12 : Option Value) (u14 : Option Value) (u16 : Option Value) (u17 : Option Value) (u19 : Option Value) (u21 : Option Value), k + nn = 4 → SH h → KM [426] h0 h → h 420 = .inr (12, [.int th, .long tr, .ref 421, .int ty, .int nx, .int tk, .int pl, .int va, .int fa, .int (nI c), .int (nI m), .int ss, .int wg, .ref 422, .ref 423, .ref 424, .ref 425, .ref 426, .ref 427, .ref 428, .ref 429, .ref 430, .ref 431, .ref 432, .ref 433]) → h 422 = .inl (0, 240, .inl G) → h 426 = .inl (1, 480, .inr (.inl (bkR Y (40 + n) (mkV true true 1 bt Y i j) (k)))) → EV xs L (d + 2) 0 0 M_X12_makes 434 h 284 [some (.ref 420), some (.int (nI s)), some (.int (nI i)), some (.int (nI j)), some (.int bt), some (.int le), some (.int no), some (.int (nI n)), some (.int 1), some (.int 1), some (.int 1), some (.int (nI k)), u12, none, u14, none, u16, u17, none, u19, none, u21] [] Q := by
  intro nn
  induction nn with
  | zero => intro k h u12 u14 u16 u17 u19 u21 hk hS hF h5 h22 h26; exact z_mp111_z hS hn hi hj kx hF h5 h22 h26 (by omega)
  | succ nn ih => intro k h u12 u14 u16 u17 u19 u21 hk hS hF h5 h22 h26; exact z_mp111_s hS hn hi hj kx hF h5 h22 h26 (by omega) (fun h' u12 u14 u16 u17 u19 u21 q0 q1 q2 q3 q4 => ih (k + 1) h' u12 u14 u16 u17 u19 u21 (by omega) q0 q1 q2 q3 q4)
set_option maxRecDepth 20000 in
set_option maxHeartbeats 1000000 in
theorem z_mp112_z {xs : Nat → Int32} {L d : Nat} {h : ev_H} {h0 : ev_H} {th : Int32} {tr : Int64} {ty nx tk pl va fa ss wg : Int32} {c m : Nat} {s i j n : Nat} {bt le no : Int32} {G : Nat → Int32} {Y : Nat → Int64} {Q : ev_Q} {k : Nat} {u12 : Option Value} {u14 : Option Value} {u16 : Option Value} {u17 : Option Value} {u19 : Option Value} {u21 : Option Value} (hS : SH h) (hn : n < 40) (hi : i < n) (hj : j < n) (kx : ∀ (h' : ev_H) (u12 : Option Value) (u14 : Option Value) (u16 : Option Value) (u17 : Option Value) (u19 : Option Value) (u21 : Option Value), SH h' → KM [426] h0 h' → h' 420 = .inr (12, [.int th, .long tr, .ref 421, .int ty, .int nx, .int tk, .int pl, .int va, .int fa, .int (nI c), .int (nI m), .int ss, .int wg, .ref 422, .ref 423, .ref 424, .ref 425, .ref 426, .ref 427, .ref 428, .ref 429, .ref 430, .ref 431, .ref 432, .ref 433]) → h' 422 = .inl (0, 240, .inl G) → h' 426 = .inl (1, 480, .inr (.inl (bkR Y (80 + n) (mkV true true 2 bt Y i j) (4)))) → EV xs L (d + 2) 0 0 M_X12_makes 434 h' 484 [some (.ref 420), some (.int (nI s)), some (.int (nI i)), some (.int (nI j)), some (.int bt), some (.int le), some (.int no), some (.int (nI n)), some (.int 1), some (.int 1), some (.int 2), some (.int (nI 4)), u12, none, u14, none, u16, u17, none, u19, none, u21] [] Q) (hF : KM [426] h0 h) (h5 : h 420 = .inr (12, [.int th, .long tr, .ref 421, .int ty, .int nx, .int tk, .int pl, .int va, .int fa, .int (nI c), .int (nI m), .int ss, .int wg, .ref 422, .ref 423, .ref 424, .ref 425, .ref 426, .ref 427, .ref 428, .ref 429, .ref 430, .ref 431, .ref 432, .ref 433])) (h22 : h 422 = .inl (0, 240, .inl G)) (h26 : h 426 = .inl (1, 480, .inr (.inl (bkR Y (80 + n) (mkV true true 2 bt Y i j) (k))))) (hk : k = 4) : EV xs L (d + 2) 0 0 M_X12_makes 434 h 284 [some (.ref 420), some (.int (nI s)), some (.int (nI i)), some (.int (nI j)), some (.int bt), some (.int le), some (.int no), some (.int (nI n)), some (.int 1), some (.int 1), some (.int 2), some (.int (nI k)), u12, none, u14, none, u16, u17, none, u19, none, u21] [] Q := by
  refine r_iload rfl dX12_makes_284 rfl ?_
  refine r_iconst (v := 4) rfl dX12_makes_286 (by decide) ?_
  refine r_icmp_ge (tgt := 484) rfl rfl dX12_makes_287 (fun _ => ?_) (fun zc => absurd (show nI (4) ≤ nI k from nI_le (a := 4) (b := k) (by omega) (by omega)) zc)
  subst hk
  exact kx h _ _ _ _ _ _ hS hF h5 h22 h26
set_option maxRecDepth 20000 in
set_option maxHeartbeats 1000000 in
theorem z_mp112_s {xs : Nat → Int32} {L d : Nat} {h : ev_H} {h0 : ev_H} {th : Int32} {tr : Int64} {ty nx tk pl va fa ss wg : Int32} {c m : Nat} {s i j n : Nat} {bt le no : Int32} {G : Nat → Int32} {Y : Nat → Int64} {Q : ev_Q} {k : Nat} {u12 : Option Value} {u14 : Option Value} {u16 : Option Value} {u17 : Option Value} {u19 : Option Value} {u21 : Option Value} (hS : SH h) (hn : n < 40) (hi : i < n) (hj : j < n) (kx : ∀ (h' : ev_H) (u12 : Option Value) (u14 : Option Value) (u16 : Option Value) (u17 : Option Value) (u19 : Option Value) (u21 : Option Value), SH h' → KM [426] h0 h' → h' 420 = .inr (12, [.int th, .long tr, .ref 421, .int ty, .int nx, .int tk, .int pl, .int va, .int fa, .int (nI c), .int (nI m), .int ss, .int wg, .ref 422, .ref 423, .ref 424, .ref 425, .ref 426, .ref 427, .ref 428, .ref 429, .ref 430, .ref 431, .ref 432, .ref 433]) → h' 422 = .inl (0, 240, .inl G) → h' 426 = .inl (1, 480, .inr (.inl (bkR Y (80 + n) (mkV true true 2 bt Y i j) (4)))) → EV xs L (d + 2) 0 0 M_X12_makes 434 h' 484 [some (.ref 420), some (.int (nI s)), some (.int (nI i)), some (.int (nI j)), some (.int bt), some (.int le), some (.int no), some (.int (nI n)), some (.int 1), some (.int 1), some (.int 2), some (.int (nI 4)), u12, none, u14, none, u16, u17, none, u19, none, u21] [] Q) (hF : KM [426] h0 h) (h5 : h 420 = .inr (12, [.int th, .long tr, .ref 421, .int ty, .int nx, .int tk, .int pl, .int va, .int fa, .int (nI c), .int (nI m), .int ss, .int wg, .ref 422, .ref 423, .ref 424, .ref 425, .ref 426, .ref 427, .ref 428, .ref 429, .ref 430, .ref 431, .ref 432, .ref 433])) (h22 : h 422 = .inl (0, 240, .inl G)) (h26 : h 426 = .inl (1, 480, .inr (.inl (bkR Y (80 + n) (mkV true true 2 bt Y i j) (k))))) (hk : k < 4) (ih : ∀ (h' : ev_H) (u12' : Option Value) (u14' : Option Value) (u16' : Option Value) (u17' : Option Value) (u19' : Option Value) (u21' : Option Value), SH h' → KM [426] h0 h' → h' 420 = .inr (12, [.int th, .long tr, .ref 421, .int ty, .int nx, .int tk, .int pl, .int va, .int fa, .int (nI c), .int (nI m), .int ss, .int wg, .ref 422, .ref 423, .ref 424, .ref 425, .ref 426, .ref 427, .ref 428, .ref 429, .ref 430, .ref 431, .ref 432, .ref 433]) → h' 422 = .inl (0, 240, .inl G) → h' 426 = .inl (1, 480, .inr (.inl (bkR Y (80 + n) (mkV true true 2 bt Y i j) (k + 1)))) → EV xs L (d + 2) 0 0 M_X12_makes 434 h' 284 [some (.ref 420), some (.int (nI s)), some (.int (nI i)), some (.int (nI j)), some (.int bt), some (.int le), some (.int no), some (.int (nI n)), some (.int 1), some (.int 1), some (.int 2), some (.int (nI (k + 1))), u12', none, u14', none, u16', u17', none, u19', none, u21'] [] Q) : EV xs L (d + 2) 0 0 M_X12_makes 434 h 284 [some (.ref 420), some (.int (nI s)), some (.int (nI i)), some (.int (nI j)), some (.int bt), some (.int le), some (.int no), some (.int (nI n)), some (.int 1), some (.int 1), some (.int 2), some (.int (nI k)), u12, none, u14, none, u16, u17, none, u19, none, u21] [] Q := by
  refine r_iload rfl dX12_makes_284 rfl ?_
  refine r_iconst (v := 4) rfl dX12_makes_286 (by decide) ?_
  refine r_icmp_ge (tgt := 484) rfl rfl dX12_makes_287 (fun zc => absurd zc (show ¬ nI (4) ≤ nI k from nI_ge (a := k) (b := 4) (by omega) (by omega))) (fun _ => ?_)
  refine r_aload_n rfl dX12_makes_290 rfl ?_
  refine r_getv 17 rfl dX12_makes_291 (show 2 ≤ 420 ∧ 420 < 434 by decide) h5 fl_X12_30 rfl ?_
  refine r_sipush (v := 160) rfl dX12_makes_294 (by decide) ?_
  refine r_iload rfl dX12_makes_297 rfl ?_
  refine r_imul rfl dX12_makes_299 ?_
  refine r_eqi (y := 320) (by decide) ?_
  refine r_iconst (v := 4) rfl dX12_makes_300 (by decide) ?_
  refine r_iload_n rfl dX12_makes_301 rfl ?_
  refine r_imul rfl dX12_makes_302 ?_
  refine r_eqi (y := nI (4 * i)) (show 4 * (nI i) = nI (4 * i) from pk_mul 4 i) ?_
  refine r_iadd rfl dX12_makes_303 ?_
  refine r_eqi (y := nI (320 + (4 * i))) (show 320 + (nI (4 * i)) = nI (320 + (4 * i)) from nI_add 320 (4 * i)) ?_
  refine r_iload rfl dX12_makes_304 rfl ?_
  refine r_iadd rfl dX12_makes_306 ?_
  refine r_eqi (y := nI ((320 + (4 * i)) + k)) (show (nI (320 + (4 * i))) + (nI k) = nI ((320 + (4 * i)) + k) from nI_add (320 + (4 * i)) k) ?_
  refine r_laldv (jn := (320 + (4 * i)) + k) (v := Y ((320 + (4 * i)) + k)) rfl dX12_makes_307 (show 2 ≤ 426 ∧ 426 < 434 by decide) h26 (vp_in_nI (n := (320 + (4 * i)) + k) (by omega) (by decide)) (nI_clamp (n := (320 + (4 * i)) + k) (by omega)) (bkR_n (by omega)) ?_
  refine r_topl (fun x51 e52 => ?_)
  refine r_lstore (ls' := [some (.ref 420), some (.int (nI s)), some (.int (nI i)), some (.int (nI j)), some (.int bt), some (.int le), some (.int no), some (.int (nI n)), some (.int 1), some (.int 1), some (.int 2), some (.int (nI k)), some (.long x51), none, u14, none, u16, u17, none, u19, none, u21]) rfl dX12_makes_308 (Nat.le_of_ble_eq_true rfl) rfl ?_
  refine r_aload_n rfl dX12_makes_310 rfl ?_
  refine r_getv 17 rfl dX12_makes_311 (show 2 ≤ 420 ∧ 420 < 434 by decide) h5 fl_X12_30 rfl ?_
  refine r_sipush (v := 160) rfl dX12_makes_314 (by decide) ?_
  refine r_iload rfl dX12_makes_317 rfl ?_
  refine r_imul rfl dX12_makes_319 ?_
  refine r_eqi (y := 320) (by decide) ?_
  refine r_iconst (v := 4) rfl dX12_makes_320 (by decide) ?_
  refine r_iload_n rfl dX12_makes_321 rfl ?_
  refine r_imul rfl dX12_makes_322 ?_
  refine r_eqi (y := nI (4 * j)) (show 4 * (nI j) = nI (4 * j) from pk_mul 4 j) ?_
  refine r_iadd rfl dX12_makes_323 ?_
  refine r_eqi (y := nI (320 + (4 * j))) (show 320 + (nI (4 * j)) = nI (320 + (4 * j)) from nI_add 320 (4 * j)) ?_
  refine r_iload rfl dX12_makes_324 rfl ?_
  refine r_iadd rfl dX12_makes_326 ?_
  refine r_eqi (y := nI ((320 + (4 * j)) + k)) (show (nI (320 + (4 * j))) + (nI k) = nI ((320 + (4 * j)) + k) from nI_add (320 + (4 * j)) k) ?_
  refine r_laldv (jn := (320 + (4 * j)) + k) (v := Y ((320 + (4 * j)) + k)) rfl dX12_makes_327 (show 2 ≤ 426 ∧ 426 < 434 by decide) h26 (vp_in_nI (n := (320 + (4 * j)) + k) (by omega) (by decide)) (nI_clamp (n := (320 + (4 * j)) + k) (by omega)) (bkR_n (by omega)) ?_
  refine r_topl (fun x53 e54 => ?_)
  refine r_lstore (ls' := [some (.ref 420), some (.int (nI s)), some (.int (nI i)), some (.int (nI j)), some (.int bt), some (.int le), some (.int no), some (.int (nI n)), some (.int 1), some (.int 1), some (.int 2), some (.int (nI k)), some (.long x51), none, some (.long x53), none, u16, u17, none, u19, none, u21]) rfl dX12_makes_328 (Nat.le_of_ble_eq_true rfl) rfl ?_
  refine r_iload rfl dX12_makes_330 rfl ?_
  refine r_iconst (v := 1) rfl dX12_makes_332 (by decide) ?_
  refine r_icmp_ne (tgt := 341) rfl rfl dX12_makes_333 (fun _ => ?_) (fun zc => absurd zc (by decide))
  refine r_iload rfl dX12_makes_341 rfl ?_
  refine r_if_eq (tgt := 355) rfl rfl dX12_makes_343 (fun zc => absurd zc (by decide)) (fun _ => ?_)
  refine r_iload rfl dX12_makes_346 rfl ?_
  refine r_if_ne (tgt := 355) rfl rfl dX12_makes_348 (fun _ => ?_) (fun zc => absurd zc (by decide))
  refine r_iconst (v := 0) rfl dX12_makes_355 (by decide) ?_
  refine r_istore (ls' := [some (.ref 420), some (.int (nI s)), some (.int (nI i)), some (.int (nI j)), some (.int bt), some (.int le), some (.int no), some (.int (nI n)), some (.int 1), some (.int 1), some (.int 2), some (.int (nI k)), some (.long x51), none, some (.long x53), none, some (.int 0), u17, none, u19, none, u21]) rfl dX12_makes_356 (Nat.le_of_ble_eq_true rfl) rfl ?_
  refine r_iload rfl dX12_makes_358 rfl ?_
  refine r_if_eq (tgt := 371) rfl rfl dX12_makes_360 (fun _ => ?_) (fun zc => absurd zc (by decide))
  refine r_lload rfl dX12_makes_371 rfl ?_
  refine r_lload rfl dX12_makes_373 rfl ?_
  refine r_land rfl dX12_makes_375 ?_
  refine r_topl (fun x55 e56 => ?_)
  refine r_lstore (ls' := [some (.ref 420), some (.int (nI s)), some (.int (nI i)), some (.int (nI j)), some (.int bt), some (.int le), some (.int no), some (.int (nI n)), some (.int 1), some (.int 1), some (.int 2), some (.int (nI k)), some (.long x51), none, some (.long x53), none, some (.int 0), some (.long x55), none, u19, none, u21]) rfl dX12_makes_376 (Nat.le_of_ble_eq_true rfl) rfl ?_
  refine r_iload rfl dX12_makes_378 rfl ?_
  refine r_iconst (v := 2) rfl dX12_makes_380 (by decide) ?_
  refine r_icmp_ne (tgt := 457) rfl rfl dX12_makes_381 (fun zc => absurd zc (by decide)) (fun _ => ?_)
  refine r_iload rfl dX12_makes_384 rfl ?_
  refine r_if_eq (tgt := 457) rfl rfl dX12_makes_386 (fun zc => absurd zc (by decide)) (fun _ => ?_)
  refine r_iload rfl dX12_makes_389 rfl ?_
  refine r_if_eq (tgt := 457) rfl rfl dX12_makes_391 (fun zc => absurd zc (by decide)) (fun _ => ?_)
  refine r_lconst (v := 0) rfl dX12_makes_394 (by decide) ?_
  refine r_lstore (ls' := [some (.ref 420), some (.int (nI s)), some (.int (nI i)), some (.int (nI j)), some (.int bt), some (.int le), some (.int no), some (.int (nI n)), some (.int 1), some (.int 1), some (.int 2), some (.int (nI k)), some (.long x51), none, some (.long x53), none, some (.int 0), some (.long x55), none, some (.long 0), none, u21]) rfl dX12_makes_395 (Nat.le_of_ble_eq_true rfl) rfl ?_
  refine r_iconst (v := 0) rfl dX12_makes_397 (by decide) ?_
  refine r_istore (ls' := [some (.ref 420), some (.int (nI s)), some (.int (nI i)), some (.int (nI j)), some (.int bt), some (.int le), some (.int no), some (.int (nI n)), some (.int 1), some (.int 1), some (.int 2), some (.int (nI k)), some (.long x51), none, some (.long x53), none, some (.int 0), some (.long x55), none, some (.long 0), none, some (.int 0)]) rfl dX12_makes_398 (Nat.le_of_ble_eq_true rfl) rfl ?_
  refine z_so (p := k) (by omega) ?_ 64 0 h rfl hS hF h5 h22 h26
  intro h57 hS58 hF59 f60 f61 f62
  refine r_lload rfl dX12_makes_440 rfl ?_
  refine r_lload rfl dX12_makes_442 rfl ?_
  refine r_land rfl dX12_makes_444 ?_
  refine r_lload rfl dX12_makes_445 rfl ?_
  refine r_ldc2 (v := (-1)) rfl dX12_makes_447 lc_X12_137 ?_
  refine r_lxor rfl dX12_makes_450 ?_
  refine r_lload rfl dX12_makes_451 rfl ?_
  refine r_land rfl dX12_makes_453 ?_
  refine r_lor rfl dX12_makes_454 ?_
  refine r_topl (fun x63 e64 => ?_)
  refine r_lstore (ls' := [some (.ref 420), some (.int (nI s)), some (.int (nI i)), some (.int (nI j)), some (.int bt), some (.int le), some (.int no), some (.int (nI n)), some (.int 1), some (.int 1), some (.int 2), some (.int (nI k)), some (.long x51), none, some (.long x53), none, some (.int 0), some (.long x63), none, some (.long (oP (fun j => maB bt (64 * k + j)) 64)), none, some (.int (nI 64))]) rfl dX12_makes_455 (Nat.le_of_ble_eq_true rfl) rfl ?_
  refine r_aload_n rfl dX12_makes_457 rfl ?_
  refine r_getv 17 rfl dX12_makes_458 (show 2 ≤ 420 ∧ 420 < 434 by decide) f60 fl_X12_30 rfl ?_
  refine r_sipush (v := 160) rfl dX12_makes_461 (by decide) ?_
  refine r_iload rfl dX12_makes_464 rfl ?_
  refine r_imul rfl dX12_makes_466 ?_
  refine r_eqi (y := 320) (by decide) ?_
  refine r_iconst (v := 4) rfl dX12_makes_467 (by decide) ?_
  refine r_iload rfl dX12_makes_468 rfl ?_
  refine r_imul rfl dX12_makes_470 ?_
  refine r_eqi (y := nI (4 * n)) (show 4 * (nI n) = nI (4 * n) from pk_mul 4 n) ?_
  refine r_iadd rfl dX12_makes_471 ?_
  refine r_eqi (y := nI (320 + (4 * n))) (show 320 + (nI (4 * n)) = nI (320 + (4 * n)) from nI_add 320 (4 * n)) ?_
  refine r_iload rfl dX12_makes_472 rfl ?_
  refine r_iadd rfl dX12_makes_474 ?_
  refine r_eqi (y := nI ((320 + (4 * n)) + k)) (show (nI (320 + (4 * n))) + (nI k) = nI ((320 + (4 * n)) + k) from nI_add (320 + (4 * n)) k) ?_
  refine r_lload rfl dX12_makes_475 rfl ?_
  refine e_last (jn := (320 + (4 * n)) + k) rfl dX12_makes_477 (show 2 ≤ 426 ∧ 426 < 434 by decide) hS58 hF59 (by decide) f62 (vp_in_nI (n := (320 + (4 * n)) + k) (by omega) (by decide)) (nI_clamp (n := (320 + (4 * n)) + k) (by omega)) (fun h65 hS66 hF67 hN68 f69 => ?_)
  have f70 : h65 420 = .inr (12, [.int th, .long tr, .ref 421, .int ty, .int nx, .int tk, .int pl, .int va, .int fa, .int (nI c), .int (nI m), .int ss, .int wg, .ref 422, .ref 423, .ref 424, .ref 425, .ref 426, .ref 427, .ref 428, .ref 429, .ref 430, .ref 431, .ref 432, .ref 433]) := (hN68 420 (by decide)).trans f60
  have f71 : h65 422 = .inl (0, 240, .inl G) := (hN68 422 (by decide)).trans f61
  refine r_iinc (y := nI (k + 1)) (ls' := [some (.ref 420), some (.int (nI s)), some (.int (nI i)), some (.int (nI j)), some (.int bt), some (.int le), some (.int no), some (.int (nI n)), some (.int 1), some (.int 1), some (.int 2), some (.int (nI (k + 1))), some (.long x51), none, some (.long x53), none, some (.int 0), some (.long x63), none, some (.long (oP (fun j => maB bt (64 * k + j)) 64)), none, some (.int (nI 64))]) rfl dX12_makes_478 rfl (nI_1 k) (Nat.le_of_ble_eq_true rfl) rfl ?_
  refine r_goto (pc' := 284) rfl dX12_makes_481 ?_
  subst e64
  subst e56
  subst e54
  subst e52
  exact ih h65 _ _ _ _ _ _ hS66 hF67 f70 f71 (by rw [← bkR_s, show 4 * (80 + n) + k = (320 + (4 * n)) + k by omega]; exact f69)
theorem z_mp112 {xs : Nat → Int32} {L d : Nat} {h0 : ev_H} {th : Int32} {tr : Int64} {ty nx tk pl va fa ss wg : Int32} {c m : Nat} {s i j n : Nat} {bt le no : Int32} {G : Nat → Int32} {Y : Nat → Int64} {Q : ev_Q} (hn : n < 40) (hi : i < n) (hj : j < n) (kx : ∀ (h' : ev_H) (u12 : Option Value) (u14 : Option Value) (u16 : Option Value) (u17 : Option Value) (u19 : Option Value) (u21 : Option Value), SH h' → KM [426] h0 h' → h' 420 = .inr (12, [.int th, .long tr, .ref 421, .int ty, .int nx, .int tk, .int pl, .int va, .int fa, .int (nI c), .int (nI m), .int ss, .int wg, .ref 422, .ref 423, .ref 424, .ref 425, .ref 426, .ref 427, .ref 428, .ref 429, .ref 430, .ref 431, .ref 432, .ref 433]) → h' 422 = .inl (0, 240, .inl G) → h' 426 = .inl (1, 480, .inr (.inl (bkR Y (80 + n) (mkV true true 2 bt Y i j) (4)))) → EV xs L (d + 2) 0 0 M_X12_makes 434 h' 484 [some (.ref 420), some (.int (nI s)), some (.int (nI i)), some (.int (nI j)), some (.int bt), some (.int le), some (.int no), some (.int (nI n)), some (.int 1), some (.int 1), some (.int 2), some (.int (nI 4)), u12, none, u14, none, u16, u17, none, u19, none, u21] [] Q) : ∀ (nn k : Nat) (h : ev_H) (u12 : Option Value) (u14 : Option Value) (u16 : Option Value) (u17 : Option Value) (u19 : Option Value) (u21 : Option Value), k + nn = 4 → SH h → KM [426] h0 h → h 420 = .inr (12, [.int th, .long tr, .ref 421, .int ty, .int nx, .int tk, .int pl, .int va, .int fa, .int (nI c), .int (nI m), .int ss, .int wg, .ref 422, .ref 423, .ref 424, .ref 425, .ref 426, .ref 427, .ref 428, .ref 429, .ref 430, .ref 431, .ref 432, .ref 433]) → h 422 = .inl (0, 240, .inl G) → h 426 = .inl (1, 480, .inr (.inl (bkR Y (80 + n) (mkV true true 2 bt Y i j) (k)))) → EV xs L (d + 2) 0 0 M_X12_makes 434 h 284 [some (.ref 420), some (.int (nI s)), some (.int (nI i)), some (.int (nI j)), some (.int bt), some (.int le), some (.int no), some (.int (nI n)), some (.int 1), some (.int 1), some (.int 2), some (.int (nI k)), u12, none, u14, none, u16, u17, none, u19, none, u21] [] Q := by
  intro nn
  induction nn with
  | zero => intro k h u12 u14 u16 u17 u19 u21 hk hS hF h5 h22 h26; exact z_mp112_z hS hn hi hj kx hF h5 h22 h26 (by omega)
  | succ nn ih => intro k h u12 u14 u16 u17 u19 u21 hk hS hF h5 h22 h26; exact z_mp112_s hS hn hi hj kx hF h5 h22 h26 (by omega) (fun h' u12 u14 u16 u17 u19 u21 q0 q1 q2 q3 q4 => ih (k + 1) h' u12 u14 u16 u17 u19 u21 (by omega) q0 q1 q2 q3 q4)
set_option maxRecDepth 20000 in
set_option maxHeartbeats 1000000 in
theorem z_mp100_z {xs : Nat → Int32} {L d : Nat} {h : ev_H} {h0 : ev_H} {th : Int32} {tr : Int64} {ty nx tk pl va fa ss wg : Int32} {c m : Nat} {s i j n : Nat} {bt le no : Int32} {G : Nat → Int32} {Y : Nat → Int64} {Q : ev_Q} {k : Nat} {u12 : Option Value} {u14 : Option Value} {u16 : Option Value} {u17 : Option Value} {u19 : Option Value} {u21 : Option Value} (hS : SH h) (hn : n < 40) (hi : i < n) (hj : j < n) (kx : ∀ (h' : ev_H) (u12 : Option Value) (u14 : Option Value) (u16 : Option Value) (u17 : Option Value) (u19 : Option Value) (u21 : Option Value), SH h' → KM [426] h0 h' → h' 420 = .inr (12, [.int th, .long tr, .ref 421, .int ty, .int nx, .int tk, .int pl, .int va, .int fa, .int (nI c), .int (nI m), .int ss, .int wg, .ref 422, .ref 423, .ref 424, .ref 425, .ref 426, .ref 427, .ref 428, .ref 429, .ref 430, .ref 431, .ref 432, .ref 433]) → h' 422 = .inl (0, 240, .inl G) → h' 426 = .inl (1, 480, .inr (.inl (bkR Y (n) (mkV true false 0 bt Y i j) (4)))) → EV xs L (d + 2) 0 0 M_X12_makes 434 h' 484 [some (.ref 420), some (.int (nI s)), some (.int (nI i)), some (.int (nI j)), some (.int bt), some (.int le), some (.int no), some (.int (nI n)), some (.int 1), some (.int 0), some (.int 0), some (.int (nI 4)), u12, none, u14, none, u16, u17, none, u19, none, u21] [] Q) (hF : KM [426] h0 h) (h5 : h 420 = .inr (12, [.int th, .long tr, .ref 421, .int ty, .int nx, .int tk, .int pl, .int va, .int fa, .int (nI c), .int (nI m), .int ss, .int wg, .ref 422, .ref 423, .ref 424, .ref 425, .ref 426, .ref 427, .ref 428, .ref 429, .ref 430, .ref 431, .ref 432, .ref 433])) (h22 : h 422 = .inl (0, 240, .inl G)) (h26 : h 426 = .inl (1, 480, .inr (.inl (bkR Y (n) (mkV true false 0 bt Y i j) (k))))) (hk : k = 4) : EV xs L (d + 2) 0 0 M_X12_makes 434 h 284 [some (.ref 420), some (.int (nI s)), some (.int (nI i)), some (.int (nI j)), some (.int bt), some (.int le), some (.int no), some (.int (nI n)), some (.int 1), some (.int 0), some (.int 0), some (.int (nI k)), u12, none, u14, none, u16, u17, none, u19, none, u21] [] Q := by
  refine r_iload rfl dX12_makes_284 rfl ?_
  refine r_iconst (v := 4) rfl dX12_makes_286 (by decide) ?_
  refine r_icmp_ge (tgt := 484) rfl rfl dX12_makes_287 (fun _ => ?_) (fun zc => absurd (show nI (4) ≤ nI k from nI_le (a := 4) (b := k) (by omega) (by omega)) zc)
  subst hk
  exact kx h _ _ _ _ _ _ hS hF h5 h22 h26
set_option maxRecDepth 20000 in
set_option maxHeartbeats 1000000 in
theorem z_mp100_s {xs : Nat → Int32} {L d : Nat} {h : ev_H} {h0 : ev_H} {th : Int32} {tr : Int64} {ty nx tk pl va fa ss wg : Int32} {c m : Nat} {s i j n : Nat} {bt le no : Int32} {G : Nat → Int32} {Y : Nat → Int64} {Q : ev_Q} {k : Nat} {u12 : Option Value} {u14 : Option Value} {u16 : Option Value} {u17 : Option Value} {u19 : Option Value} {u21 : Option Value} (hS : SH h) (hn : n < 40) (hi : i < n) (hj : j < n) (kx : ∀ (h' : ev_H) (u12 : Option Value) (u14 : Option Value) (u16 : Option Value) (u17 : Option Value) (u19 : Option Value) (u21 : Option Value), SH h' → KM [426] h0 h' → h' 420 = .inr (12, [.int th, .long tr, .ref 421, .int ty, .int nx, .int tk, .int pl, .int va, .int fa, .int (nI c), .int (nI m), .int ss, .int wg, .ref 422, .ref 423, .ref 424, .ref 425, .ref 426, .ref 427, .ref 428, .ref 429, .ref 430, .ref 431, .ref 432, .ref 433]) → h' 422 = .inl (0, 240, .inl G) → h' 426 = .inl (1, 480, .inr (.inl (bkR Y (n) (mkV true false 0 bt Y i j) (4)))) → EV xs L (d + 2) 0 0 M_X12_makes 434 h' 484 [some (.ref 420), some (.int (nI s)), some (.int (nI i)), some (.int (nI j)), some (.int bt), some (.int le), some (.int no), some (.int (nI n)), some (.int 1), some (.int 0), some (.int 0), some (.int (nI 4)), u12, none, u14, none, u16, u17, none, u19, none, u21] [] Q) (hF : KM [426] h0 h) (h5 : h 420 = .inr (12, [.int th, .long tr, .ref 421, .int ty, .int nx, .int tk, .int pl, .int va, .int fa, .int (nI c), .int (nI m), .int ss, .int wg, .ref 422, .ref 423, .ref 424, .ref 425, .ref 426, .ref 427, .ref 428, .ref 429, .ref 430, .ref 431, .ref 432, .ref 433])) (h22 : h 422 = .inl (0, 240, .inl G)) (h26 : h 426 = .inl (1, 480, .inr (.inl (bkR Y (n) (mkV true false 0 bt Y i j) (k))))) (hk : k < 4) (ih : ∀ (h' : ev_H) (u12' : Option Value) (u14' : Option Value) (u16' : Option Value) (u17' : Option Value) (u19' : Option Value) (u21' : Option Value), SH h' → KM [426] h0 h' → h' 420 = .inr (12, [.int th, .long tr, .ref 421, .int ty, .int nx, .int tk, .int pl, .int va, .int fa, .int (nI c), .int (nI m), .int ss, .int wg, .ref 422, .ref 423, .ref 424, .ref 425, .ref 426, .ref 427, .ref 428, .ref 429, .ref 430, .ref 431, .ref 432, .ref 433]) → h' 422 = .inl (0, 240, .inl G) → h' 426 = .inl (1, 480, .inr (.inl (bkR Y (n) (mkV true false 0 bt Y i j) (k + 1)))) → EV xs L (d + 2) 0 0 M_X12_makes 434 h' 284 [some (.ref 420), some (.int (nI s)), some (.int (nI i)), some (.int (nI j)), some (.int bt), some (.int le), some (.int no), some (.int (nI n)), some (.int 1), some (.int 0), some (.int 0), some (.int (nI (k + 1))), u12', none, u14', none, u16', u17', none, u19', none, u21'] [] Q) : EV xs L (d + 2) 0 0 M_X12_makes 434 h 284 [some (.ref 420), some (.int (nI s)), some (.int (nI i)), some (.int (nI j)), some (.int bt), some (.int le), some (.int no), some (.int (nI n)), some (.int 1), some (.int 0), some (.int 0), some (.int (nI k)), u12, none, u14, none, u16, u17, none, u19, none, u21] [] Q := by
  refine r_iload rfl dX12_makes_284 rfl ?_
  refine r_iconst (v := 4) rfl dX12_makes_286 (by decide) ?_
  refine r_icmp_ge (tgt := 484) rfl rfl dX12_makes_287 (fun zc => absurd zc (show ¬ nI (4) ≤ nI k from nI_ge (a := k) (b := 4) (by omega) (by omega))) (fun _ => ?_)
  refine r_aload_n rfl dX12_makes_290 rfl ?_
  refine r_getv 17 rfl dX12_makes_291 (show 2 ≤ 420 ∧ 420 < 434 by decide) h5 fl_X12_30 rfl ?_
  refine r_sipush (v := 160) rfl dX12_makes_294 (by decide) ?_
  refine r_iload rfl dX12_makes_297 rfl ?_
  refine r_imul rfl dX12_makes_299 ?_
  refine r_eqi (y := 0) (by decide) ?_
  refine r_iconst (v := 4) rfl dX12_makes_300 (by decide) ?_
  refine r_iload_n rfl dX12_makes_301 rfl ?_
  refine r_imul rfl dX12_makes_302 ?_
  refine r_eqi (y := nI (4 * i)) (show 4 * (nI i) = nI (4 * i) from pk_mul 4 i) ?_
  refine r_iadd rfl dX12_makes_303 ?_
  refine r_eqi (y := nI (0 + (4 * i))) (show 0 + (nI (4 * i)) = nI (0 + (4 * i)) from nI_add 0 (4 * i)) ?_
  refine r_iload rfl dX12_makes_304 rfl ?_
  refine r_iadd rfl dX12_makes_306 ?_
  refine r_eqi (y := nI ((0 + (4 * i)) + k)) (show (nI (0 + (4 * i))) + (nI k) = nI ((0 + (4 * i)) + k) from nI_add (0 + (4 * i)) k) ?_
  refine r_laldv (jn := (0 + (4 * i)) + k) (v := Y ((0 + (4 * i)) + k)) rfl dX12_makes_307 (show 2 ≤ 426 ∧ 426 < 434 by decide) h26 (vp_in_nI (n := (0 + (4 * i)) + k) (by omega) (by decide)) (nI_clamp (n := (0 + (4 * i)) + k) (by omega)) (bkR_n (by omega)) ?_
  refine r_topl (fun x51 e52 => ?_)
  refine r_lstore (ls' := [some (.ref 420), some (.int (nI s)), some (.int (nI i)), some (.int (nI j)), some (.int bt), some (.int le), some (.int no), some (.int (nI n)), some (.int 1), some (.int 0), some (.int 0), some (.int (nI k)), some (.long x51), none, u14, none, u16, u17, none, u19, none, u21]) rfl dX12_makes_308 (Nat.le_of_ble_eq_true rfl) rfl ?_
  refine r_aload_n rfl dX12_makes_310 rfl ?_
  refine r_getv 17 rfl dX12_makes_311 (show 2 ≤ 420 ∧ 420 < 434 by decide) h5 fl_X12_30 rfl ?_
  refine r_sipush (v := 160) rfl dX12_makes_314 (by decide) ?_
  refine r_iload rfl dX12_makes_317 rfl ?_
  refine r_imul rfl dX12_makes_319 ?_
  refine r_eqi (y := 0) (by decide) ?_
  refine r_iconst (v := 4) rfl dX12_makes_320 (by decide) ?_
  refine r_iload_n rfl dX12_makes_321 rfl ?_
  refine r_imul rfl dX12_makes_322 ?_
  refine r_eqi (y := nI (4 * j)) (show 4 * (nI j) = nI (4 * j) from pk_mul 4 j) ?_
  refine r_iadd rfl dX12_makes_323 ?_
  refine r_eqi (y := nI (0 + (4 * j))) (show 0 + (nI (4 * j)) = nI (0 + (4 * j)) from nI_add 0 (4 * j)) ?_
  refine r_iload rfl dX12_makes_324 rfl ?_
  refine r_iadd rfl dX12_makes_326 ?_
  refine r_eqi (y := nI ((0 + (4 * j)) + k)) (show (nI (0 + (4 * j))) + (nI k) = nI ((0 + (4 * j)) + k) from nI_add (0 + (4 * j)) k) ?_
  refine r_laldv (jn := (0 + (4 * j)) + k) (v := Y ((0 + (4 * j)) + k)) rfl dX12_makes_327 (show 2 ≤ 426 ∧ 426 < 434 by decide) h26 (vp_in_nI (n := (0 + (4 * j)) + k) (by omega) (by decide)) (nI_clamp (n := (0 + (4 * j)) + k) (by omega)) (bkR_n (by omega)) ?_
  refine r_topl (fun x53 e54 => ?_)
  refine r_lstore (ls' := [some (.ref 420), some (.int (nI s)), some (.int (nI i)), some (.int (nI j)), some (.int bt), some (.int le), some (.int no), some (.int (nI n)), some (.int 1), some (.int 0), some (.int 0), some (.int (nI k)), some (.long x51), none, some (.long x53), none, u16, u17, none, u19, none, u21]) rfl dX12_makes_328 (Nat.le_of_ble_eq_true rfl) rfl ?_
  refine r_iload rfl dX12_makes_330 rfl ?_
  refine r_iconst (v := 1) rfl dX12_makes_332 (by decide) ?_
  refine r_icmp_ne (tgt := 341) rfl rfl dX12_makes_333 (fun _ => ?_) (fun zc => absurd zc (by decide))
  refine r_iload rfl dX12_makes_341 rfl ?_
  refine r_if_eq (tgt := 355) rfl rfl dX12_makes_343 (fun zc => absurd zc (by decide)) (fun _ => ?_)
  refine r_iload rfl dX12_makes_346 rfl ?_
  refine r_if_ne (tgt := 355) rfl rfl dX12_makes_348 (fun zc => absurd zc (by decide)) (fun _ => ?_)
  refine r_iconst (v := 1) rfl dX12_makes_351 (by decide) ?_
  refine r_goto (pc' := 356) rfl dX12_makes_352 ?_
  refine r_istore (ls' := [some (.ref 420), some (.int (nI s)), some (.int (nI i)), some (.int (nI j)), some (.int bt), some (.int le), some (.int no), some (.int (nI n)), some (.int 1), some (.int 0), some (.int 0), some (.int (nI k)), some (.long x51), none, some (.long x53), none, some (.int 1), u17, none, u19, none, u21]) rfl dX12_makes_356 (Nat.le_of_ble_eq_true rfl) rfl ?_
  refine r_iload rfl dX12_makes_358 rfl ?_
  refine r_if_eq (tgt := 371) rfl rfl dX12_makes_360 (fun zc => absurd zc (by decide)) (fun _ => ?_)
  refine r_lload rfl dX12_makes_363 rfl ?_
  refine r_lload rfl dX12_makes_365 rfl ?_
  refine r_lor rfl dX12_makes_367 ?_
  refine r_goto (pc' := 376) rfl dX12_makes_368 ?_
  refine r_topl (fun x55 e56 => ?_)
  refine r_lstore (ls' := [some (.ref 420), some (.int (nI s)), some (.int (nI i)), some (.int (nI j)), some (.int bt), some (.int le), some (.int no), some (.int (nI n)), some (.int 1), some (.int 0), some (.int 0), some (.int (nI k)), some (.long x51), none, some (.long x53), none, some (.int 1), some (.long x55), none, u19, none, u21]) rfl dX12_makes_376 (Nat.le_of_ble_eq_true rfl) rfl ?_
  refine r_iload rfl dX12_makes_378 rfl ?_
  refine r_iconst (v := 2) rfl dX12_makes_380 (by decide) ?_
  refine r_icmp_ne (tgt := 457) rfl rfl dX12_makes_381 (fun _ => ?_) (fun zc => absurd zc (by decide))
  refine r_aload_n rfl dX12_makes_457 rfl ?_
  refine r_getv 17 rfl dX12_makes_458 (show 2 ≤ 420 ∧ 420 < 434 by decide) h5 fl_X12_30 rfl ?_
  refine r_sipush (v := 160) rfl dX12_makes_461 (by decide) ?_
  refine r_iload rfl dX12_makes_464 rfl ?_
  refine r_imul rfl dX12_makes_466 ?_
  refine r_eqi (y := 0) (by decide) ?_
  refine r_iconst (v := 4) rfl dX12_makes_467 (by decide) ?_
  refine r_iload rfl dX12_makes_468 rfl ?_
  refine r_imul rfl dX12_makes_470 ?_
  refine r_eqi (y := nI (4 * n)) (show 4 * (nI n) = nI (4 * n) from pk_mul 4 n) ?_
  refine r_iadd rfl dX12_makes_471 ?_
  refine r_eqi (y := nI (0 + (4 * n))) (show 0 + (nI (4 * n)) = nI (0 + (4 * n)) from nI_add 0 (4 * n)) ?_
  refine r_iload rfl dX12_makes_472 rfl ?_
  refine r_iadd rfl dX12_makes_474 ?_
  refine r_eqi (y := nI ((0 + (4 * n)) + k)) (show (nI (0 + (4 * n))) + (nI k) = nI ((0 + (4 * n)) + k) from nI_add (0 + (4 * n)) k) ?_
  refine r_lload rfl dX12_makes_475 rfl ?_
  refine e_last (jn := (0 + (4 * n)) + k) rfl dX12_makes_477 (show 2 ≤ 426 ∧ 426 < 434 by decide) hS hF (by decide) h26 (vp_in_nI (n := (0 + (4 * n)) + k) (by omega) (by decide)) (nI_clamp (n := (0 + (4 * n)) + k) (by omega)) (fun h57 hS58 hF59 hN60 f61 => ?_)
  have f62 : h57 420 = .inr (12, [.int th, .long tr, .ref 421, .int ty, .int nx, .int tk, .int pl, .int va, .int fa, .int (nI c), .int (nI m), .int ss, .int wg, .ref 422, .ref 423, .ref 424, .ref 425, .ref 426, .ref 427, .ref 428, .ref 429, .ref 430, .ref 431, .ref 432, .ref 433]) := (hN60 420 (by decide)).trans h5
  have f63 : h57 422 = .inl (0, 240, .inl G) := (hN60 422 (by decide)).trans h22
  refine r_iinc (y := nI (k + 1)) (ls' := [some (.ref 420), some (.int (nI s)), some (.int (nI i)), some (.int (nI j)), some (.int bt), some (.int le), some (.int no), some (.int (nI n)), some (.int 1), some (.int 0), some (.int 0), some (.int (nI (k + 1))), some (.long x51), none, some (.long x53), none, some (.int 1), some (.long x55), none, u19, none, u21]) rfl dX12_makes_478 rfl (nI_1 k) (Nat.le_of_ble_eq_true rfl) rfl ?_
  refine r_goto (pc' := 284) rfl dX12_makes_481 ?_
  subst e56
  subst e54
  subst e52
  exact ih h57 _ _ _ _ _ _ hS58 hF59 f62 f63 (by rw [← bkR_s, show 4 * (n) + k = (0 + (4 * n)) + k by omega]; exact f61)
theorem z_mp100 {xs : Nat → Int32} {L d : Nat} {h0 : ev_H} {th : Int32} {tr : Int64} {ty nx tk pl va fa ss wg : Int32} {c m : Nat} {s i j n : Nat} {bt le no : Int32} {G : Nat → Int32} {Y : Nat → Int64} {Q : ev_Q} (hn : n < 40) (hi : i < n) (hj : j < n) (kx : ∀ (h' : ev_H) (u12 : Option Value) (u14 : Option Value) (u16 : Option Value) (u17 : Option Value) (u19 : Option Value) (u21 : Option Value), SH h' → KM [426] h0 h' → h' 420 = .inr (12, [.int th, .long tr, .ref 421, .int ty, .int nx, .int tk, .int pl, .int va, .int fa, .int (nI c), .int (nI m), .int ss, .int wg, .ref 422, .ref 423, .ref 424, .ref 425, .ref 426, .ref 427, .ref 428, .ref 429, .ref 430, .ref 431, .ref 432, .ref 433]) → h' 422 = .inl (0, 240, .inl G) → h' 426 = .inl (1, 480, .inr (.inl (bkR Y (n) (mkV true false 0 bt Y i j) (4)))) → EV xs L (d + 2) 0 0 M_X12_makes 434 h' 484 [some (.ref 420), some (.int (nI s)), some (.int (nI i)), some (.int (nI j)), some (.int bt), some (.int le), some (.int no), some (.int (nI n)), some (.int 1), some (.int 0), some (.int 0), some (.int (nI 4)), u12, none, u14, none, u16, u17, none, u19, none, u21] [] Q) : ∀ (nn k : Nat) (h : ev_H) (u12 : Option Value) (u14 : Option Value) (u16 : Option Value) (u17 : Option Value) (u19 : Option Value) (u21 : Option Value), k + nn = 4 → SH h → KM [426] h0 h → h 420 = .inr (12, [.int th, .long tr, .ref 421, .int ty, .int nx, .int tk, .int pl, .int va, .int fa, .int (nI c), .int (nI m), .int ss, .int wg, .ref 422, .ref 423, .ref 424, .ref 425, .ref 426, .ref 427, .ref 428, .ref 429, .ref 430, .ref 431, .ref 432, .ref 433]) → h 422 = .inl (0, 240, .inl G) → h 426 = .inl (1, 480, .inr (.inl (bkR Y (n) (mkV true false 0 bt Y i j) (k)))) → EV xs L (d + 2) 0 0 M_X12_makes 434 h 284 [some (.ref 420), some (.int (nI s)), some (.int (nI i)), some (.int (nI j)), some (.int bt), some (.int le), some (.int no), some (.int (nI n)), some (.int 1), some (.int 0), some (.int 0), some (.int (nI k)), u12, none, u14, none, u16, u17, none, u19, none, u21] [] Q := by
  intro nn
  induction nn with
  | zero => intro k h u12 u14 u16 u17 u19 u21 hk hS hF h5 h22 h26; exact z_mp100_z hS hn hi hj kx hF h5 h22 h26 (by omega)
  | succ nn ih => intro k h u12 u14 u16 u17 u19 u21 hk hS hF h5 h22 h26; exact z_mp100_s hS hn hi hj kx hF h5 h22 h26 (by omega) (fun h' u12 u14 u16 u17 u19 u21 q0 q1 q2 q3 q4 => ih (k + 1) h' u12 u14 u16 u17 u19 u21 (by omega) q0 q1 q2 q3 q4)
set_option maxRecDepth 20000 in
set_option maxHeartbeats 1000000 in
theorem z_mp101_z {xs : Nat → Int32} {L d : Nat} {h : ev_H} {h0 : ev_H} {th : Int32} {tr : Int64} {ty nx tk pl va fa ss wg : Int32} {c m : Nat} {s i j n : Nat} {bt le no : Int32} {G : Nat → Int32} {Y : Nat → Int64} {Q : ev_Q} {k : Nat} {u12 : Option Value} {u14 : Option Value} {u16 : Option Value} {u17 : Option Value} {u19 : Option Value} {u21 : Option Value} (hS : SH h) (hn : n < 40) (hi : i < n) (hj : j < n) (kx : ∀ (h' : ev_H) (u12 : Option Value) (u14 : Option Value) (u16 : Option Value) (u17 : Option Value) (u19 : Option Value) (u21 : Option Value), SH h' → KM [426] h0 h' → h' 420 = .inr (12, [.int th, .long tr, .ref 421, .int ty, .int nx, .int tk, .int pl, .int va, .int fa, .int (nI c), .int (nI m), .int ss, .int wg, .ref 422, .ref 423, .ref 424, .ref 425, .ref 426, .ref 427, .ref 428, .ref 429, .ref 430, .ref 431, .ref 432, .ref 433]) → h' 422 = .inl (0, 240, .inl G) → h' 426 = .inl (1, 480, .inr (.inl (bkR Y (40 + n) (mkV true false 1 bt Y i j) (4)))) → EV xs L (d + 2) 0 0 M_X12_makes 434 h' 484 [some (.ref 420), some (.int (nI s)), some (.int (nI i)), some (.int (nI j)), some (.int bt), some (.int le), some (.int no), some (.int (nI n)), some (.int 1), some (.int 0), some (.int 1), some (.int (nI 4)), u12, none, u14, none, u16, u17, none, u19, none, u21] [] Q) (hF : KM [426] h0 h) (h5 : h 420 = .inr (12, [.int th, .long tr, .ref 421, .int ty, .int nx, .int tk, .int pl, .int va, .int fa, .int (nI c), .int (nI m), .int ss, .int wg, .ref 422, .ref 423, .ref 424, .ref 425, .ref 426, .ref 427, .ref 428, .ref 429, .ref 430, .ref 431, .ref 432, .ref 433])) (h22 : h 422 = .inl (0, 240, .inl G)) (h26 : h 426 = .inl (1, 480, .inr (.inl (bkR Y (40 + n) (mkV true false 1 bt Y i j) (k))))) (hk : k = 4) : EV xs L (d + 2) 0 0 M_X12_makes 434 h 284 [some (.ref 420), some (.int (nI s)), some (.int (nI i)), some (.int (nI j)), some (.int bt), some (.int le), some (.int no), some (.int (nI n)), some (.int 1), some (.int 0), some (.int 1), some (.int (nI k)), u12, none, u14, none, u16, u17, none, u19, none, u21] [] Q := by
  refine r_iload rfl dX12_makes_284 rfl ?_
  refine r_iconst (v := 4) rfl dX12_makes_286 (by decide) ?_
  refine r_icmp_ge (tgt := 484) rfl rfl dX12_makes_287 (fun _ => ?_) (fun zc => absurd (show nI (4) ≤ nI k from nI_le (a := 4) (b := k) (by omega) (by omega)) zc)
  subst hk
  exact kx h _ _ _ _ _ _ hS hF h5 h22 h26
set_option maxRecDepth 20000 in
set_option maxHeartbeats 1000000 in
theorem z_mp101_s {xs : Nat → Int32} {L d : Nat} {h : ev_H} {h0 : ev_H} {th : Int32} {tr : Int64} {ty nx tk pl va fa ss wg : Int32} {c m : Nat} {s i j n : Nat} {bt le no : Int32} {G : Nat → Int32} {Y : Nat → Int64} {Q : ev_Q} {k : Nat} {u12 : Option Value} {u14 : Option Value} {u16 : Option Value} {u17 : Option Value} {u19 : Option Value} {u21 : Option Value} (hS : SH h) (hn : n < 40) (hi : i < n) (hj : j < n) (kx : ∀ (h' : ev_H) (u12 : Option Value) (u14 : Option Value) (u16 : Option Value) (u17 : Option Value) (u19 : Option Value) (u21 : Option Value), SH h' → KM [426] h0 h' → h' 420 = .inr (12, [.int th, .long tr, .ref 421, .int ty, .int nx, .int tk, .int pl, .int va, .int fa, .int (nI c), .int (nI m), .int ss, .int wg, .ref 422, .ref 423, .ref 424, .ref 425, .ref 426, .ref 427, .ref 428, .ref 429, .ref 430, .ref 431, .ref 432, .ref 433]) → h' 422 = .inl (0, 240, .inl G) → h' 426 = .inl (1, 480, .inr (.inl (bkR Y (40 + n) (mkV true false 1 bt Y i j) (4)))) → EV xs L (d + 2) 0 0 M_X12_makes 434 h' 484 [some (.ref 420), some (.int (nI s)), some (.int (nI i)), some (.int (nI j)), some (.int bt), some (.int le), some (.int no), some (.int (nI n)), some (.int 1), some (.int 0), some (.int 1), some (.int (nI 4)), u12, none, u14, none, u16, u17, none, u19, none, u21] [] Q) (hF : KM [426] h0 h) (h5 : h 420 = .inr (12, [.int th, .long tr, .ref 421, .int ty, .int nx, .int tk, .int pl, .int va, .int fa, .int (nI c), .int (nI m), .int ss, .int wg, .ref 422, .ref 423, .ref 424, .ref 425, .ref 426, .ref 427, .ref 428, .ref 429, .ref 430, .ref 431, .ref 432, .ref 433])) (h22 : h 422 = .inl (0, 240, .inl G)) (h26 : h 426 = .inl (1, 480, .inr (.inl (bkR Y (40 + n) (mkV true false 1 bt Y i j) (k))))) (hk : k < 4) (ih : ∀ (h' : ev_H) (u12' : Option Value) (u14' : Option Value) (u16' : Option Value) (u17' : Option Value) (u19' : Option Value) (u21' : Option Value), SH h' → KM [426] h0 h' → h' 420 = .inr (12, [.int th, .long tr, .ref 421, .int ty, .int nx, .int tk, .int pl, .int va, .int fa, .int (nI c), .int (nI m), .int ss, .int wg, .ref 422, .ref 423, .ref 424, .ref 425, .ref 426, .ref 427, .ref 428, .ref 429, .ref 430, .ref 431, .ref 432, .ref 433]) → h' 422 = .inl (0, 240, .inl G) → h' 426 = .inl (1, 480, .inr (.inl (bkR Y (40 + n) (mkV true false 1 bt Y i j) (k + 1)))) → EV xs L (d + 2) 0 0 M_X12_makes 434 h' 284 [some (.ref 420), some (.int (nI s)), some (.int (nI i)), some (.int (nI j)), some (.int bt), some (.int le), some (.int no), some (.int (nI n)), some (.int 1), some (.int 0), some (.int 1), some (.int (nI (k + 1))), u12', none, u14', none, u16', u17', none, u19', none, u21'] [] Q) : EV xs L (d + 2) 0 0 M_X12_makes 434 h 284 [some (.ref 420), some (.int (nI s)), some (.int (nI i)), some (.int (nI j)), some (.int bt), some (.int le), some (.int no), some (.int (nI n)), some (.int 1), some (.int 0), some (.int 1), some (.int (nI k)), u12, none, u14, none, u16, u17, none, u19, none, u21] [] Q := by
  refine r_iload rfl dX12_makes_284 rfl ?_
  refine r_iconst (v := 4) rfl dX12_makes_286 (by decide) ?_
  refine r_icmp_ge (tgt := 484) rfl rfl dX12_makes_287 (fun zc => absurd zc (show ¬ nI (4) ≤ nI k from nI_ge (a := k) (b := 4) (by omega) (by omega))) (fun _ => ?_)
  refine r_aload_n rfl dX12_makes_290 rfl ?_
  refine r_getv 17 rfl dX12_makes_291 (show 2 ≤ 420 ∧ 420 < 434 by decide) h5 fl_X12_30 rfl ?_
  refine r_sipush (v := 160) rfl dX12_makes_294 (by decide) ?_
  refine r_iload rfl dX12_makes_297 rfl ?_
  refine r_imul rfl dX12_makes_299 ?_
  refine r_eqi (y := 160) (by decide) ?_
  refine r_iconst (v := 4) rfl dX12_makes_300 (by decide) ?_
  refine r_iload_n rfl dX12_makes_301 rfl ?_
  refine r_imul rfl dX12_makes_302 ?_
  refine r_eqi (y := nI (4 * i)) (show 4 * (nI i) = nI (4 * i) from pk_mul 4 i) ?_
  refine r_iadd rfl dX12_makes_303 ?_
  refine r_eqi (y := nI (160 + (4 * i))) (show 160 + (nI (4 * i)) = nI (160 + (4 * i)) from nI_add 160 (4 * i)) ?_
  refine r_iload rfl dX12_makes_304 rfl ?_
  refine r_iadd rfl dX12_makes_306 ?_
  refine r_eqi (y := nI ((160 + (4 * i)) + k)) (show (nI (160 + (4 * i))) + (nI k) = nI ((160 + (4 * i)) + k) from nI_add (160 + (4 * i)) k) ?_
  refine r_laldv (jn := (160 + (4 * i)) + k) (v := Y ((160 + (4 * i)) + k)) rfl dX12_makes_307 (show 2 ≤ 426 ∧ 426 < 434 by decide) h26 (vp_in_nI (n := (160 + (4 * i)) + k) (by omega) (by decide)) (nI_clamp (n := (160 + (4 * i)) + k) (by omega)) (bkR_n (by omega)) ?_
  refine r_topl (fun x51 e52 => ?_)
  refine r_lstore (ls' := [some (.ref 420), some (.int (nI s)), some (.int (nI i)), some (.int (nI j)), some (.int bt), some (.int le), some (.int no), some (.int (nI n)), some (.int 1), some (.int 0), some (.int 1), some (.int (nI k)), some (.long x51), none, u14, none, u16, u17, none, u19, none, u21]) rfl dX12_makes_308 (Nat.le_of_ble_eq_true rfl) rfl ?_
  refine r_aload_n rfl dX12_makes_310 rfl ?_
  refine r_getv 17 rfl dX12_makes_311 (show 2 ≤ 420 ∧ 420 < 434 by decide) h5 fl_X12_30 rfl ?_
  refine r_sipush (v := 160) rfl dX12_makes_314 (by decide) ?_
  refine r_iload rfl dX12_makes_317 rfl ?_
  refine r_imul rfl dX12_makes_319 ?_
  refine r_eqi (y := 160) (by decide) ?_
  refine r_iconst (v := 4) rfl dX12_makes_320 (by decide) ?_
  refine r_iload_n rfl dX12_makes_321 rfl ?_
  refine r_imul rfl dX12_makes_322 ?_
  refine r_eqi (y := nI (4 * j)) (show 4 * (nI j) = nI (4 * j) from pk_mul 4 j) ?_
  refine r_iadd rfl dX12_makes_323 ?_
  refine r_eqi (y := nI (160 + (4 * j))) (show 160 + (nI (4 * j)) = nI (160 + (4 * j)) from nI_add 160 (4 * j)) ?_
  refine r_iload rfl dX12_makes_324 rfl ?_
  refine r_iadd rfl dX12_makes_326 ?_
  refine r_eqi (y := nI ((160 + (4 * j)) + k)) (show (nI (160 + (4 * j))) + (nI k) = nI ((160 + (4 * j)) + k) from nI_add (160 + (4 * j)) k) ?_
  refine r_laldv (jn := (160 + (4 * j)) + k) (v := Y ((160 + (4 * j)) + k)) rfl dX12_makes_327 (show 2 ≤ 426 ∧ 426 < 434 by decide) h26 (vp_in_nI (n := (160 + (4 * j)) + k) (by omega) (by decide)) (nI_clamp (n := (160 + (4 * j)) + k) (by omega)) (bkR_n (by omega)) ?_
  refine r_topl (fun x53 e54 => ?_)
  refine r_lstore (ls' := [some (.ref 420), some (.int (nI s)), some (.int (nI i)), some (.int (nI j)), some (.int bt), some (.int le), some (.int no), some (.int (nI n)), some (.int 1), some (.int 0), some (.int 1), some (.int (nI k)), some (.long x51), none, some (.long x53), none, u16, u17, none, u19, none, u21]) rfl dX12_makes_328 (Nat.le_of_ble_eq_true rfl) rfl ?_
  refine r_iload rfl dX12_makes_330 rfl ?_
  refine r_iconst (v := 1) rfl dX12_makes_332 (by decide) ?_
  refine r_icmp_ne (tgt := 341) rfl rfl dX12_makes_333 (fun zc => absurd zc (by decide)) (fun _ => ?_)
  refine r_iload rfl dX12_makes_336 rfl ?_
  refine r_goto (pc' := 356) rfl dX12_makes_338 ?_
  refine r_istore (ls' := [some (.ref 420), some (.int (nI s)), some (.int (nI i)), some (.int (nI j)), some (.int bt), some (.int le), some (.int no), some (.int (nI n)), some (.int 1), some (.int 0), some (.int 1), some (.int (nI k)), some (.long x51), none, some (.long x53), none, some (.int 1), u17, none, u19, none, u21]) rfl dX12_makes_356 (Nat.le_of_ble_eq_true rfl) rfl ?_
  refine r_iload rfl dX12_makes_358 rfl ?_
  refine r_if_eq (tgt := 371) rfl rfl dX12_makes_360 (fun zc => absurd zc (by decide)) (fun _ => ?_)
  refine r_lload rfl dX12_makes_363 rfl ?_
  refine r_lload rfl dX12_makes_365 rfl ?_
  refine r_lor rfl dX12_makes_367 ?_
  refine r_goto (pc' := 376) rfl dX12_makes_368 ?_
  refine r_topl (fun x55 e56 => ?_)
  refine r_lstore (ls' := [some (.ref 420), some (.int (nI s)), some (.int (nI i)), some (.int (nI j)), some (.int bt), some (.int le), some (.int no), some (.int (nI n)), some (.int 1), some (.int 0), some (.int 1), some (.int (nI k)), some (.long x51), none, some (.long x53), none, some (.int 1), some (.long x55), none, u19, none, u21]) rfl dX12_makes_376 (Nat.le_of_ble_eq_true rfl) rfl ?_
  refine r_iload rfl dX12_makes_378 rfl ?_
  refine r_iconst (v := 2) rfl dX12_makes_380 (by decide) ?_
  refine r_icmp_ne (tgt := 457) rfl rfl dX12_makes_381 (fun _ => ?_) (fun zc => absurd zc (by decide))
  refine r_aload_n rfl dX12_makes_457 rfl ?_
  refine r_getv 17 rfl dX12_makes_458 (show 2 ≤ 420 ∧ 420 < 434 by decide) h5 fl_X12_30 rfl ?_
  refine r_sipush (v := 160) rfl dX12_makes_461 (by decide) ?_
  refine r_iload rfl dX12_makes_464 rfl ?_
  refine r_imul rfl dX12_makes_466 ?_
  refine r_eqi (y := 160) (by decide) ?_
  refine r_iconst (v := 4) rfl dX12_makes_467 (by decide) ?_
  refine r_iload rfl dX12_makes_468 rfl ?_
  refine r_imul rfl dX12_makes_470 ?_
  refine r_eqi (y := nI (4 * n)) (show 4 * (nI n) = nI (4 * n) from pk_mul 4 n) ?_
  refine r_iadd rfl dX12_makes_471 ?_
  refine r_eqi (y := nI (160 + (4 * n))) (show 160 + (nI (4 * n)) = nI (160 + (4 * n)) from nI_add 160 (4 * n)) ?_
  refine r_iload rfl dX12_makes_472 rfl ?_
  refine r_iadd rfl dX12_makes_474 ?_
  refine r_eqi (y := nI ((160 + (4 * n)) + k)) (show (nI (160 + (4 * n))) + (nI k) = nI ((160 + (4 * n)) + k) from nI_add (160 + (4 * n)) k) ?_
  refine r_lload rfl dX12_makes_475 rfl ?_
  refine e_last (jn := (160 + (4 * n)) + k) rfl dX12_makes_477 (show 2 ≤ 426 ∧ 426 < 434 by decide) hS hF (by decide) h26 (vp_in_nI (n := (160 + (4 * n)) + k) (by omega) (by decide)) (nI_clamp (n := (160 + (4 * n)) + k) (by omega)) (fun h57 hS58 hF59 hN60 f61 => ?_)
  have f62 : h57 420 = .inr (12, [.int th, .long tr, .ref 421, .int ty, .int nx, .int tk, .int pl, .int va, .int fa, .int (nI c), .int (nI m), .int ss, .int wg, .ref 422, .ref 423, .ref 424, .ref 425, .ref 426, .ref 427, .ref 428, .ref 429, .ref 430, .ref 431, .ref 432, .ref 433]) := (hN60 420 (by decide)).trans h5
  have f63 : h57 422 = .inl (0, 240, .inl G) := (hN60 422 (by decide)).trans h22
  refine r_iinc (y := nI (k + 1)) (ls' := [some (.ref 420), some (.int (nI s)), some (.int (nI i)), some (.int (nI j)), some (.int bt), some (.int le), some (.int no), some (.int (nI n)), some (.int 1), some (.int 0), some (.int 1), some (.int (nI (k + 1))), some (.long x51), none, some (.long x53), none, some (.int 1), some (.long x55), none, u19, none, u21]) rfl dX12_makes_478 rfl (nI_1 k) (Nat.le_of_ble_eq_true rfl) rfl ?_
  refine r_goto (pc' := 284) rfl dX12_makes_481 ?_
  subst e56
  subst e54
  subst e52
  exact ih h57 _ _ _ _ _ _ hS58 hF59 f62 f63 (by rw [← bkR_s, show 4 * (40 + n) + k = (160 + (4 * n)) + k by omega]; exact f61)
theorem z_mp101 {xs : Nat → Int32} {L d : Nat} {h0 : ev_H} {th : Int32} {tr : Int64} {ty nx tk pl va fa ss wg : Int32} {c m : Nat} {s i j n : Nat} {bt le no : Int32} {G : Nat → Int32} {Y : Nat → Int64} {Q : ev_Q} (hn : n < 40) (hi : i < n) (hj : j < n) (kx : ∀ (h' : ev_H) (u12 : Option Value) (u14 : Option Value) (u16 : Option Value) (u17 : Option Value) (u19 : Option Value) (u21 : Option Value), SH h' → KM [426] h0 h' → h' 420 = .inr (12, [.int th, .long tr, .ref 421, .int ty, .int nx, .int tk, .int pl, .int va, .int fa, .int (nI c), .int (nI m), .int ss, .int wg, .ref 422, .ref 423, .ref 424, .ref 425, .ref 426, .ref 427, .ref 428, .ref 429, .ref 430, .ref 431, .ref 432, .ref 433]) → h' 422 = .inl (0, 240, .inl G) → h' 426 = .inl (1, 480, .inr (.inl (bkR Y (40 + n) (mkV true false 1 bt Y i j) (4)))) → EV xs L (d + 2) 0 0 M_X12_makes 434 h' 484 [some (.ref 420), some (.int (nI s)), some (.int (nI i)), some (.int (nI j)), some (.int bt), some (.int le), some (.int no), some (.int (nI n)), some (.int 1), some (.int 0), some (.int 1), some (.int (nI 4)), u12, none, u14, none, u16, u17, none, u19, none, u21] [] Q) : ∀ (nn k : Nat) (h : ev_H) (u12 : Option Value) (u14 : Option Value) (u16 : Option Value) (u17 : Option Value) (u19 : Option Value) (u21 : Option Value), k + nn = 4 → SH h → KM [426] h0 h → h 420 = .inr (12, [.int th, .long tr, .ref 421, .int ty, .int nx, .int tk, .int pl, .int va, .int fa, .int (nI c), .int (nI m), .int ss, .int wg, .ref 422, .ref 423, .ref 424, .ref 425, .ref 426, .ref 427, .ref 428, .ref 429, .ref 430, .ref 431, .ref 432, .ref 433]) → h 422 = .inl (0, 240, .inl G) → h 426 = .inl (1, 480, .inr (.inl (bkR Y (40 + n) (mkV true false 1 bt Y i j) (k)))) → EV xs L (d + 2) 0 0 M_X12_makes 434 h 284 [some (.ref 420), some (.int (nI s)), some (.int (nI i)), some (.int (nI j)), some (.int bt), some (.int le), some (.int no), some (.int (nI n)), some (.int 1), some (.int 0), some (.int 1), some (.int (nI k)), u12, none, u14, none, u16, u17, none, u19, none, u21] [] Q := by
  intro nn
  induction nn with
  | zero => intro k h u12 u14 u16 u17 u19 u21 hk hS hF h5 h22 h26; exact z_mp101_z hS hn hi hj kx hF h5 h22 h26 (by omega)
  | succ nn ih => intro k h u12 u14 u16 u17 u19 u21 hk hS hF h5 h22 h26; exact z_mp101_s hS hn hi hj kx hF h5 h22 h26 (by omega) (fun h' u12 u14 u16 u17 u19 u21 q0 q1 q2 q3 q4 => ih (k + 1) h' u12 u14 u16 u17 u19 u21 (by omega) q0 q1 q2 q3 q4)
set_option maxRecDepth 20000 in
set_option maxHeartbeats 1000000 in
theorem z_mp102_z {xs : Nat → Int32} {L d : Nat} {h : ev_H} {h0 : ev_H} {th : Int32} {tr : Int64} {ty nx tk pl va fa ss wg : Int32} {c m : Nat} {s i j n : Nat} {bt le no : Int32} {G : Nat → Int32} {Y : Nat → Int64} {Q : ev_Q} {k : Nat} {u12 : Option Value} {u14 : Option Value} {u16 : Option Value} {u17 : Option Value} {u19 : Option Value} {u21 : Option Value} (hS : SH h) (hn : n < 40) (hi : i < n) (hj : j < n) (kx : ∀ (h' : ev_H) (u12 : Option Value) (u14 : Option Value) (u16 : Option Value) (u17 : Option Value) (u19 : Option Value) (u21 : Option Value), SH h' → KM [426] h0 h' → h' 420 = .inr (12, [.int th, .long tr, .ref 421, .int ty, .int nx, .int tk, .int pl, .int va, .int fa, .int (nI c), .int (nI m), .int ss, .int wg, .ref 422, .ref 423, .ref 424, .ref 425, .ref 426, .ref 427, .ref 428, .ref 429, .ref 430, .ref 431, .ref 432, .ref 433]) → h' 422 = .inl (0, 240, .inl G) → h' 426 = .inl (1, 480, .inr (.inl (bkR Y (80 + n) (mkV true false 2 bt Y i j) (4)))) → EV xs L (d + 2) 0 0 M_X12_makes 434 h' 484 [some (.ref 420), some (.int (nI s)), some (.int (nI i)), some (.int (nI j)), some (.int bt), some (.int le), some (.int no), some (.int (nI n)), some (.int 1), some (.int 0), some (.int 2), some (.int (nI 4)), u12, none, u14, none, u16, u17, none, u19, none, u21] [] Q) (hF : KM [426] h0 h) (h5 : h 420 = .inr (12, [.int th, .long tr, .ref 421, .int ty, .int nx, .int tk, .int pl, .int va, .int fa, .int (nI c), .int (nI m), .int ss, .int wg, .ref 422, .ref 423, .ref 424, .ref 425, .ref 426, .ref 427, .ref 428, .ref 429, .ref 430, .ref 431, .ref 432, .ref 433])) (h22 : h 422 = .inl (0, 240, .inl G)) (h26 : h 426 = .inl (1, 480, .inr (.inl (bkR Y (80 + n) (mkV true false 2 bt Y i j) (k))))) (hk : k = 4) : EV xs L (d + 2) 0 0 M_X12_makes 434 h 284 [some (.ref 420), some (.int (nI s)), some (.int (nI i)), some (.int (nI j)), some (.int bt), some (.int le), some (.int no), some (.int (nI n)), some (.int 1), some (.int 0), some (.int 2), some (.int (nI k)), u12, none, u14, none, u16, u17, none, u19, none, u21] [] Q := by
  refine r_iload rfl dX12_makes_284 rfl ?_
  refine r_iconst (v := 4) rfl dX12_makes_286 (by decide) ?_
  refine r_icmp_ge (tgt := 484) rfl rfl dX12_makes_287 (fun _ => ?_) (fun zc => absurd (show nI (4) ≤ nI k from nI_le (a := 4) (b := k) (by omega) (by omega)) zc)
  subst hk
  exact kx h _ _ _ _ _ _ hS hF h5 h22 h26
set_option maxRecDepth 20000 in
set_option maxHeartbeats 1000000 in
theorem z_mp102_s {xs : Nat → Int32} {L d : Nat} {h : ev_H} {h0 : ev_H} {th : Int32} {tr : Int64} {ty nx tk pl va fa ss wg : Int32} {c m : Nat} {s i j n : Nat} {bt le no : Int32} {G : Nat → Int32} {Y : Nat → Int64} {Q : ev_Q} {k : Nat} {u12 : Option Value} {u14 : Option Value} {u16 : Option Value} {u17 : Option Value} {u19 : Option Value} {u21 : Option Value} (hS : SH h) (hn : n < 40) (hi : i < n) (hj : j < n) (kx : ∀ (h' : ev_H) (u12 : Option Value) (u14 : Option Value) (u16 : Option Value) (u17 : Option Value) (u19 : Option Value) (u21 : Option Value), SH h' → KM [426] h0 h' → h' 420 = .inr (12, [.int th, .long tr, .ref 421, .int ty, .int nx, .int tk, .int pl, .int va, .int fa, .int (nI c), .int (nI m), .int ss, .int wg, .ref 422, .ref 423, .ref 424, .ref 425, .ref 426, .ref 427, .ref 428, .ref 429, .ref 430, .ref 431, .ref 432, .ref 433]) → h' 422 = .inl (0, 240, .inl G) → h' 426 = .inl (1, 480, .inr (.inl (bkR Y (80 + n) (mkV true false 2 bt Y i j) (4)))) → EV xs L (d + 2) 0 0 M_X12_makes 434 h' 484 [some (.ref 420), some (.int (nI s)), some (.int (nI i)), some (.int (nI j)), some (.int bt), some (.int le), some (.int no), some (.int (nI n)), some (.int 1), some (.int 0), some (.int 2), some (.int (nI 4)), u12, none, u14, none, u16, u17, none, u19, none, u21] [] Q) (hF : KM [426] h0 h) (h5 : h 420 = .inr (12, [.int th, .long tr, .ref 421, .int ty, .int nx, .int tk, .int pl, .int va, .int fa, .int (nI c), .int (nI m), .int ss, .int wg, .ref 422, .ref 423, .ref 424, .ref 425, .ref 426, .ref 427, .ref 428, .ref 429, .ref 430, .ref 431, .ref 432, .ref 433])) (h22 : h 422 = .inl (0, 240, .inl G)) (h26 : h 426 = .inl (1, 480, .inr (.inl (bkR Y (80 + n) (mkV true false 2 bt Y i j) (k))))) (hk : k < 4) (ih : ∀ (h' : ev_H) (u12' : Option Value) (u14' : Option Value) (u16' : Option Value) (u17' : Option Value) (u19' : Option Value) (u21' : Option Value), SH h' → KM [426] h0 h' → h' 420 = .inr (12, [.int th, .long tr, .ref 421, .int ty, .int nx, .int tk, .int pl, .int va, .int fa, .int (nI c), .int (nI m), .int ss, .int wg, .ref 422, .ref 423, .ref 424, .ref 425, .ref 426, .ref 427, .ref 428, .ref 429, .ref 430, .ref 431, .ref 432, .ref 433]) → h' 422 = .inl (0, 240, .inl G) → h' 426 = .inl (1, 480, .inr (.inl (bkR Y (80 + n) (mkV true false 2 bt Y i j) (k + 1)))) → EV xs L (d + 2) 0 0 M_X12_makes 434 h' 284 [some (.ref 420), some (.int (nI s)), some (.int (nI i)), some (.int (nI j)), some (.int bt), some (.int le), some (.int no), some (.int (nI n)), some (.int 1), some (.int 0), some (.int 2), some (.int (nI (k + 1))), u12', none, u14', none, u16', u17', none, u19', none, u21'] [] Q) : EV xs L (d + 2) 0 0 M_X12_makes 434 h 284 [some (.ref 420), some (.int (nI s)), some (.int (nI i)), some (.int (nI j)), some (.int bt), some (.int le), some (.int no), some (.int (nI n)), some (.int 1), some (.int 0), some (.int 2), some (.int (nI k)), u12, none, u14, none, u16, u17, none, u19, none, u21] [] Q := by
  refine r_iload rfl dX12_makes_284 rfl ?_
  refine r_iconst (v := 4) rfl dX12_makes_286 (by decide) ?_
  refine r_icmp_ge (tgt := 484) rfl rfl dX12_makes_287 (fun zc => absurd zc (show ¬ nI (4) ≤ nI k from nI_ge (a := k) (b := 4) (by omega) (by omega))) (fun _ => ?_)
  refine r_aload_n rfl dX12_makes_290 rfl ?_
  refine r_getv 17 rfl dX12_makes_291 (show 2 ≤ 420 ∧ 420 < 434 by decide) h5 fl_X12_30 rfl ?_
  refine r_sipush (v := 160) rfl dX12_makes_294 (by decide) ?_
  refine r_iload rfl dX12_makes_297 rfl ?_
  refine r_imul rfl dX12_makes_299 ?_
  refine r_eqi (y := 320) (by decide) ?_
  refine r_iconst (v := 4) rfl dX12_makes_300 (by decide) ?_
  refine r_iload_n rfl dX12_makes_301 rfl ?_
  refine r_imul rfl dX12_makes_302 ?_
  refine r_eqi (y := nI (4 * i)) (show 4 * (nI i) = nI (4 * i) from pk_mul 4 i) ?_
  refine r_iadd rfl dX12_makes_303 ?_
  refine r_eqi (y := nI (320 + (4 * i))) (show 320 + (nI (4 * i)) = nI (320 + (4 * i)) from nI_add 320 (4 * i)) ?_
  refine r_iload rfl dX12_makes_304 rfl ?_
  refine r_iadd rfl dX12_makes_306 ?_
  refine r_eqi (y := nI ((320 + (4 * i)) + k)) (show (nI (320 + (4 * i))) + (nI k) = nI ((320 + (4 * i)) + k) from nI_add (320 + (4 * i)) k) ?_
  refine r_laldv (jn := (320 + (4 * i)) + k) (v := Y ((320 + (4 * i)) + k)) rfl dX12_makes_307 (show 2 ≤ 426 ∧ 426 < 434 by decide) h26 (vp_in_nI (n := (320 + (4 * i)) + k) (by omega) (by decide)) (nI_clamp (n := (320 + (4 * i)) + k) (by omega)) (bkR_n (by omega)) ?_
  refine r_topl (fun x51 e52 => ?_)
  refine r_lstore (ls' := [some (.ref 420), some (.int (nI s)), some (.int (nI i)), some (.int (nI j)), some (.int bt), some (.int le), some (.int no), some (.int (nI n)), some (.int 1), some (.int 0), some (.int 2), some (.int (nI k)), some (.long x51), none, u14, none, u16, u17, none, u19, none, u21]) rfl dX12_makes_308 (Nat.le_of_ble_eq_true rfl) rfl ?_
  refine r_aload_n rfl dX12_makes_310 rfl ?_
  refine r_getv 17 rfl dX12_makes_311 (show 2 ≤ 420 ∧ 420 < 434 by decide) h5 fl_X12_30 rfl ?_
  refine r_sipush (v := 160) rfl dX12_makes_314 (by decide) ?_
  refine r_iload rfl dX12_makes_317 rfl ?_
  refine r_imul rfl dX12_makes_319 ?_
  refine r_eqi (y := 320) (by decide) ?_
  refine r_iconst (v := 4) rfl dX12_makes_320 (by decide) ?_
  refine r_iload_n rfl dX12_makes_321 rfl ?_
  refine r_imul rfl dX12_makes_322 ?_
  refine r_eqi (y := nI (4 * j)) (show 4 * (nI j) = nI (4 * j) from pk_mul 4 j) ?_
  refine r_iadd rfl dX12_makes_323 ?_
  refine r_eqi (y := nI (320 + (4 * j))) (show 320 + (nI (4 * j)) = nI (320 + (4 * j)) from nI_add 320 (4 * j)) ?_
  refine r_iload rfl dX12_makes_324 rfl ?_
  refine r_iadd rfl dX12_makes_326 ?_
  refine r_eqi (y := nI ((320 + (4 * j)) + k)) (show (nI (320 + (4 * j))) + (nI k) = nI ((320 + (4 * j)) + k) from nI_add (320 + (4 * j)) k) ?_
  refine r_laldv (jn := (320 + (4 * j)) + k) (v := Y ((320 + (4 * j)) + k)) rfl dX12_makes_327 (show 2 ≤ 426 ∧ 426 < 434 by decide) h26 (vp_in_nI (n := (320 + (4 * j)) + k) (by omega) (by decide)) (nI_clamp (n := (320 + (4 * j)) + k) (by omega)) (bkR_n (by omega)) ?_
  refine r_topl (fun x53 e54 => ?_)
  refine r_lstore (ls' := [some (.ref 420), some (.int (nI s)), some (.int (nI i)), some (.int (nI j)), some (.int bt), some (.int le), some (.int no), some (.int (nI n)), some (.int 1), some (.int 0), some (.int 2), some (.int (nI k)), some (.long x51), none, some (.long x53), none, u16, u17, none, u19, none, u21]) rfl dX12_makes_328 (Nat.le_of_ble_eq_true rfl) rfl ?_
  refine r_iload rfl dX12_makes_330 rfl ?_
  refine r_iconst (v := 1) rfl dX12_makes_332 (by decide) ?_
  refine r_icmp_ne (tgt := 341) rfl rfl dX12_makes_333 (fun _ => ?_) (fun zc => absurd zc (by decide))
  refine r_iload rfl dX12_makes_341 rfl ?_
  refine r_if_eq (tgt := 355) rfl rfl dX12_makes_343 (fun zc => absurd zc (by decide)) (fun _ => ?_)
  refine r_iload rfl dX12_makes_346 rfl ?_
  refine r_if_ne (tgt := 355) rfl rfl dX12_makes_348 (fun zc => absurd zc (by decide)) (fun _ => ?_)
  refine r_iconst (v := 1) rfl dX12_makes_351 (by decide) ?_
  refine r_goto (pc' := 356) rfl dX12_makes_352 ?_
  refine r_istore (ls' := [some (.ref 420), some (.int (nI s)), some (.int (nI i)), some (.int (nI j)), some (.int bt), some (.int le), some (.int no), some (.int (nI n)), some (.int 1), some (.int 0), some (.int 2), some (.int (nI k)), some (.long x51), none, some (.long x53), none, some (.int 1), u17, none, u19, none, u21]) rfl dX12_makes_356 (Nat.le_of_ble_eq_true rfl) rfl ?_
  refine r_iload rfl dX12_makes_358 rfl ?_
  refine r_if_eq (tgt := 371) rfl rfl dX12_makes_360 (fun zc => absurd zc (by decide)) (fun _ => ?_)
  refine r_lload rfl dX12_makes_363 rfl ?_
  refine r_lload rfl dX12_makes_365 rfl ?_
  refine r_lor rfl dX12_makes_367 ?_
  refine r_goto (pc' := 376) rfl dX12_makes_368 ?_
  refine r_topl (fun x55 e56 => ?_)
  refine r_lstore (ls' := [some (.ref 420), some (.int (nI s)), some (.int (nI i)), some (.int (nI j)), some (.int bt), some (.int le), some (.int no), some (.int (nI n)), some (.int 1), some (.int 0), some (.int 2), some (.int (nI k)), some (.long x51), none, some (.long x53), none, some (.int 1), some (.long x55), none, u19, none, u21]) rfl dX12_makes_376 (Nat.le_of_ble_eq_true rfl) rfl ?_
  refine r_iload rfl dX12_makes_378 rfl ?_
  refine r_iconst (v := 2) rfl dX12_makes_380 (by decide) ?_
  refine r_icmp_ne (tgt := 457) rfl rfl dX12_makes_381 (fun zc => absurd zc (by decide)) (fun _ => ?_)
  refine r_iload rfl dX12_makes_384 rfl ?_
  refine r_if_eq (tgt := 457) rfl rfl dX12_makes_386 (fun zc => absurd zc (by decide)) (fun _ => ?_)
  refine r_iload rfl dX12_makes_389 rfl ?_
  refine r_if_eq (tgt := 457) rfl rfl dX12_makes_391 (fun _ => ?_) (fun zc => absurd zc (by decide))
  refine r_aload_n rfl dX12_makes_457 rfl ?_
  refine r_getv 17 rfl dX12_makes_458 (show 2 ≤ 420 ∧ 420 < 434 by decide) h5 fl_X12_30 rfl ?_
  refine r_sipush (v := 160) rfl dX12_makes_461 (by decide) ?_
  refine r_iload rfl dX12_makes_464 rfl ?_
  refine r_imul rfl dX12_makes_466 ?_
  refine r_eqi (y := 320) (by decide) ?_
  refine r_iconst (v := 4) rfl dX12_makes_467 (by decide) ?_
  refine r_iload rfl dX12_makes_468 rfl ?_
  refine r_imul rfl dX12_makes_470 ?_
  refine r_eqi (y := nI (4 * n)) (show 4 * (nI n) = nI (4 * n) from pk_mul 4 n) ?_
  refine r_iadd rfl dX12_makes_471 ?_
  refine r_eqi (y := nI (320 + (4 * n))) (show 320 + (nI (4 * n)) = nI (320 + (4 * n)) from nI_add 320 (4 * n)) ?_
  refine r_iload rfl dX12_makes_472 rfl ?_
  refine r_iadd rfl dX12_makes_474 ?_
  refine r_eqi (y := nI ((320 + (4 * n)) + k)) (show (nI (320 + (4 * n))) + (nI k) = nI ((320 + (4 * n)) + k) from nI_add (320 + (4 * n)) k) ?_
  refine r_lload rfl dX12_makes_475 rfl ?_
  refine e_last (jn := (320 + (4 * n)) + k) rfl dX12_makes_477 (show 2 ≤ 426 ∧ 426 < 434 by decide) hS hF (by decide) h26 (vp_in_nI (n := (320 + (4 * n)) + k) (by omega) (by decide)) (nI_clamp (n := (320 + (4 * n)) + k) (by omega)) (fun h57 hS58 hF59 hN60 f61 => ?_)
  have f62 : h57 420 = .inr (12, [.int th, .long tr, .ref 421, .int ty, .int nx, .int tk, .int pl, .int va, .int fa, .int (nI c), .int (nI m), .int ss, .int wg, .ref 422, .ref 423, .ref 424, .ref 425, .ref 426, .ref 427, .ref 428, .ref 429, .ref 430, .ref 431, .ref 432, .ref 433]) := (hN60 420 (by decide)).trans h5
  have f63 : h57 422 = .inl (0, 240, .inl G) := (hN60 422 (by decide)).trans h22
  refine r_iinc (y := nI (k + 1)) (ls' := [some (.ref 420), some (.int (nI s)), some (.int (nI i)), some (.int (nI j)), some (.int bt), some (.int le), some (.int no), some (.int (nI n)), some (.int 1), some (.int 0), some (.int 2), some (.int (nI (k + 1))), some (.long x51), none, some (.long x53), none, some (.int 1), some (.long x55), none, u19, none, u21]) rfl dX12_makes_478 rfl (nI_1 k) (Nat.le_of_ble_eq_true rfl) rfl ?_
  refine r_goto (pc' := 284) rfl dX12_makes_481 ?_
  subst e56
  subst e54
  subst e52
  exact ih h57 _ _ _ _ _ _ hS58 hF59 f62 f63 (by rw [← bkR_s, show 4 * (80 + n) + k = (320 + (4 * n)) + k by omega]; exact f61)
theorem z_mp102 {xs : Nat → Int32} {L d : Nat} {h0 : ev_H} {th : Int32} {tr : Int64} {ty nx tk pl va fa ss wg : Int32} {c m : Nat} {s i j n : Nat} {bt le no : Int32} {G : Nat → Int32} {Y : Nat → Int64} {Q : ev_Q} (hn : n < 40) (hi : i < n) (hj : j < n) (kx : ∀ (h' : ev_H) (u12 : Option Value) (u14 : Option Value) (u16 : Option Value) (u17 : Option Value) (u19 : Option Value) (u21 : Option Value), SH h' → KM [426] h0 h' → h' 420 = .inr (12, [.int th, .long tr, .ref 421, .int ty, .int nx, .int tk, .int pl, .int va, .int fa, .int (nI c), .int (nI m), .int ss, .int wg, .ref 422, .ref 423, .ref 424, .ref 425, .ref 426, .ref 427, .ref 428, .ref 429, .ref 430, .ref 431, .ref 432, .ref 433]) → h' 422 = .inl (0, 240, .inl G) → h' 426 = .inl (1, 480, .inr (.inl (bkR Y (80 + n) (mkV true false 2 bt Y i j) (4)))) → EV xs L (d + 2) 0 0 M_X12_makes 434 h' 484 [some (.ref 420), some (.int (nI s)), some (.int (nI i)), some (.int (nI j)), some (.int bt), some (.int le), some (.int no), some (.int (nI n)), some (.int 1), some (.int 0), some (.int 2), some (.int (nI 4)), u12, none, u14, none, u16, u17, none, u19, none, u21] [] Q) : ∀ (nn k : Nat) (h : ev_H) (u12 : Option Value) (u14 : Option Value) (u16 : Option Value) (u17 : Option Value) (u19 : Option Value) (u21 : Option Value), k + nn = 4 → SH h → KM [426] h0 h → h 420 = .inr (12, [.int th, .long tr, .ref 421, .int ty, .int nx, .int tk, .int pl, .int va, .int fa, .int (nI c), .int (nI m), .int ss, .int wg, .ref 422, .ref 423, .ref 424, .ref 425, .ref 426, .ref 427, .ref 428, .ref 429, .ref 430, .ref 431, .ref 432, .ref 433]) → h 422 = .inl (0, 240, .inl G) → h 426 = .inl (1, 480, .inr (.inl (bkR Y (80 + n) (mkV true false 2 bt Y i j) (k)))) → EV xs L (d + 2) 0 0 M_X12_makes 434 h 284 [some (.ref 420), some (.int (nI s)), some (.int (nI i)), some (.int (nI j)), some (.int bt), some (.int le), some (.int no), some (.int (nI n)), some (.int 1), some (.int 0), some (.int 2), some (.int (nI k)), u12, none, u14, none, u16, u17, none, u19, none, u21] [] Q := by
  intro nn
  induction nn with
  | zero => intro k h u12 u14 u16 u17 u19 u21 hk hS hF h5 h22 h26; exact z_mp102_z hS hn hi hj kx hF h5 h22 h26 (by omega)
  | succ nn ih => intro k h u12 u14 u16 u17 u19 u21 hk hS hF h5 h22 h26; exact z_mp102_s hS hn hi hj kx hF h5 h22 h26 (by omega) (fun h' u12 u14 u16 u17 u19 u21 q0 q1 q2 q3 q4 => ih (k + 1) h' u12 u14 u16 u17 u19 u21 (by omega) q0 q1 q2 q3 q4)
set_option maxRecDepth 20000 in
set_option maxHeartbeats 1000000 in
theorem z_mp010_z {xs : Nat → Int32} {L d : Nat} {h : ev_H} {h0 : ev_H} {th : Int32} {tr : Int64} {ty nx tk pl va fa ss wg : Int32} {c m : Nat} {s i j n : Nat} {bt le no : Int32} {G : Nat → Int32} {Y : Nat → Int64} {Q : ev_Q} {k : Nat} {u12 : Option Value} {u14 : Option Value} {u16 : Option Value} {u17 : Option Value} {u19 : Option Value} {u21 : Option Value} (hS : SH h) (hn : n < 40) (hi : i < n) (hj : j < n) (kx : ∀ (h' : ev_H) (u12 : Option Value) (u14 : Option Value) (u16 : Option Value) (u17 : Option Value) (u19 : Option Value) (u21 : Option Value), SH h' → KM [426] h0 h' → h' 420 = .inr (12, [.int th, .long tr, .ref 421, .int ty, .int nx, .int tk, .int pl, .int va, .int fa, .int (nI c), .int (nI m), .int ss, .int wg, .ref 422, .ref 423, .ref 424, .ref 425, .ref 426, .ref 427, .ref 428, .ref 429, .ref 430, .ref 431, .ref 432, .ref 433]) → h' 422 = .inl (0, 240, .inl G) → h' 426 = .inl (1, 480, .inr (.inl (bkR Y (n) (mkV false true 0 bt Y i j) (4)))) → EV xs L (d + 2) 0 0 M_X12_makes 434 h' 484 [some (.ref 420), some (.int (nI s)), some (.int (nI i)), some (.int (nI j)), some (.int bt), some (.int le), some (.int no), some (.int (nI n)), some (.int 0), some (.int 1), some (.int 0), some (.int (nI 4)), u12, none, u14, none, u16, u17, none, u19, none, u21] [] Q) (hF : KM [426] h0 h) (h5 : h 420 = .inr (12, [.int th, .long tr, .ref 421, .int ty, .int nx, .int tk, .int pl, .int va, .int fa, .int (nI c), .int (nI m), .int ss, .int wg, .ref 422, .ref 423, .ref 424, .ref 425, .ref 426, .ref 427, .ref 428, .ref 429, .ref 430, .ref 431, .ref 432, .ref 433])) (h22 : h 422 = .inl (0, 240, .inl G)) (h26 : h 426 = .inl (1, 480, .inr (.inl (bkR Y (n) (mkV false true 0 bt Y i j) (k))))) (hk : k = 4) : EV xs L (d + 2) 0 0 M_X12_makes 434 h 284 [some (.ref 420), some (.int (nI s)), some (.int (nI i)), some (.int (nI j)), some (.int bt), some (.int le), some (.int no), some (.int (nI n)), some (.int 0), some (.int 1), some (.int 0), some (.int (nI k)), u12, none, u14, none, u16, u17, none, u19, none, u21] [] Q := by
  refine r_iload rfl dX12_makes_284 rfl ?_
  refine r_iconst (v := 4) rfl dX12_makes_286 (by decide) ?_
  refine r_icmp_ge (tgt := 484) rfl rfl dX12_makes_287 (fun _ => ?_) (fun zc => absurd (show nI (4) ≤ nI k from nI_le (a := 4) (b := k) (by omega) (by omega)) zc)
  subst hk
  exact kx h _ _ _ _ _ _ hS hF h5 h22 h26
set_option maxRecDepth 20000 in
set_option maxHeartbeats 1000000 in
theorem z_mp010_s {xs : Nat → Int32} {L d : Nat} {h : ev_H} {h0 : ev_H} {th : Int32} {tr : Int64} {ty nx tk pl va fa ss wg : Int32} {c m : Nat} {s i j n : Nat} {bt le no : Int32} {G : Nat → Int32} {Y : Nat → Int64} {Q : ev_Q} {k : Nat} {u12 : Option Value} {u14 : Option Value} {u16 : Option Value} {u17 : Option Value} {u19 : Option Value} {u21 : Option Value} (hS : SH h) (hn : n < 40) (hi : i < n) (hj : j < n) (kx : ∀ (h' : ev_H) (u12 : Option Value) (u14 : Option Value) (u16 : Option Value) (u17 : Option Value) (u19 : Option Value) (u21 : Option Value), SH h' → KM [426] h0 h' → h' 420 = .inr (12, [.int th, .long tr, .ref 421, .int ty, .int nx, .int tk, .int pl, .int va, .int fa, .int (nI c), .int (nI m), .int ss, .int wg, .ref 422, .ref 423, .ref 424, .ref 425, .ref 426, .ref 427, .ref 428, .ref 429, .ref 430, .ref 431, .ref 432, .ref 433]) → h' 422 = .inl (0, 240, .inl G) → h' 426 = .inl (1, 480, .inr (.inl (bkR Y (n) (mkV false true 0 bt Y i j) (4)))) → EV xs L (d + 2) 0 0 M_X12_makes 434 h' 484 [some (.ref 420), some (.int (nI s)), some (.int (nI i)), some (.int (nI j)), some (.int bt), some (.int le), some (.int no), some (.int (nI n)), some (.int 0), some (.int 1), some (.int 0), some (.int (nI 4)), u12, none, u14, none, u16, u17, none, u19, none, u21] [] Q) (hF : KM [426] h0 h) (h5 : h 420 = .inr (12, [.int th, .long tr, .ref 421, .int ty, .int nx, .int tk, .int pl, .int va, .int fa, .int (nI c), .int (nI m), .int ss, .int wg, .ref 422, .ref 423, .ref 424, .ref 425, .ref 426, .ref 427, .ref 428, .ref 429, .ref 430, .ref 431, .ref 432, .ref 433])) (h22 : h 422 = .inl (0, 240, .inl G)) (h26 : h 426 = .inl (1, 480, .inr (.inl (bkR Y (n) (mkV false true 0 bt Y i j) (k))))) (hk : k < 4) (ih : ∀ (h' : ev_H) (u12' : Option Value) (u14' : Option Value) (u16' : Option Value) (u17' : Option Value) (u19' : Option Value) (u21' : Option Value), SH h' → KM [426] h0 h' → h' 420 = .inr (12, [.int th, .long tr, .ref 421, .int ty, .int nx, .int tk, .int pl, .int va, .int fa, .int (nI c), .int (nI m), .int ss, .int wg, .ref 422, .ref 423, .ref 424, .ref 425, .ref 426, .ref 427, .ref 428, .ref 429, .ref 430, .ref 431, .ref 432, .ref 433]) → h' 422 = .inl (0, 240, .inl G) → h' 426 = .inl (1, 480, .inr (.inl (bkR Y (n) (mkV false true 0 bt Y i j) (k + 1)))) → EV xs L (d + 2) 0 0 M_X12_makes 434 h' 284 [some (.ref 420), some (.int (nI s)), some (.int (nI i)), some (.int (nI j)), some (.int bt), some (.int le), some (.int no), some (.int (nI n)), some (.int 0), some (.int 1), some (.int 0), some (.int (nI (k + 1))), u12', none, u14', none, u16', u17', none, u19', none, u21'] [] Q) : EV xs L (d + 2) 0 0 M_X12_makes 434 h 284 [some (.ref 420), some (.int (nI s)), some (.int (nI i)), some (.int (nI j)), some (.int bt), some (.int le), some (.int no), some (.int (nI n)), some (.int 0), some (.int 1), some (.int 0), some (.int (nI k)), u12, none, u14, none, u16, u17, none, u19, none, u21] [] Q := by
  refine r_iload rfl dX12_makes_284 rfl ?_
  refine r_iconst (v := 4) rfl dX12_makes_286 (by decide) ?_
  refine r_icmp_ge (tgt := 484) rfl rfl dX12_makes_287 (fun zc => absurd zc (show ¬ nI (4) ≤ nI k from nI_ge (a := k) (b := 4) (by omega) (by omega))) (fun _ => ?_)
  refine r_aload_n rfl dX12_makes_290 rfl ?_
  refine r_getv 17 rfl dX12_makes_291 (show 2 ≤ 420 ∧ 420 < 434 by decide) h5 fl_X12_30 rfl ?_
  refine r_sipush (v := 160) rfl dX12_makes_294 (by decide) ?_
  refine r_iload rfl dX12_makes_297 rfl ?_
  refine r_imul rfl dX12_makes_299 ?_
  refine r_eqi (y := 0) (by decide) ?_
  refine r_iconst (v := 4) rfl dX12_makes_300 (by decide) ?_
  refine r_iload_n rfl dX12_makes_301 rfl ?_
  refine r_imul rfl dX12_makes_302 ?_
  refine r_eqi (y := nI (4 * i)) (show 4 * (nI i) = nI (4 * i) from pk_mul 4 i) ?_
  refine r_iadd rfl dX12_makes_303 ?_
  refine r_eqi (y := nI (0 + (4 * i))) (show 0 + (nI (4 * i)) = nI (0 + (4 * i)) from nI_add 0 (4 * i)) ?_
  refine r_iload rfl dX12_makes_304 rfl ?_
  refine r_iadd rfl dX12_makes_306 ?_
  refine r_eqi (y := nI ((0 + (4 * i)) + k)) (show (nI (0 + (4 * i))) + (nI k) = nI ((0 + (4 * i)) + k) from nI_add (0 + (4 * i)) k) ?_
  refine r_laldv (jn := (0 + (4 * i)) + k) (v := Y ((0 + (4 * i)) + k)) rfl dX12_makes_307 (show 2 ≤ 426 ∧ 426 < 434 by decide) h26 (vp_in_nI (n := (0 + (4 * i)) + k) (by omega) (by decide)) (nI_clamp (n := (0 + (4 * i)) + k) (by omega)) (bkR_n (by omega)) ?_
  refine r_topl (fun x51 e52 => ?_)
  refine r_lstore (ls' := [some (.ref 420), some (.int (nI s)), some (.int (nI i)), some (.int (nI j)), some (.int bt), some (.int le), some (.int no), some (.int (nI n)), some (.int 0), some (.int 1), some (.int 0), some (.int (nI k)), some (.long x51), none, u14, none, u16, u17, none, u19, none, u21]) rfl dX12_makes_308 (Nat.le_of_ble_eq_true rfl) rfl ?_
  refine r_aload_n rfl dX12_makes_310 rfl ?_
  refine r_getv 17 rfl dX12_makes_311 (show 2 ≤ 420 ∧ 420 < 434 by decide) h5 fl_X12_30 rfl ?_
  refine r_sipush (v := 160) rfl dX12_makes_314 (by decide) ?_
  refine r_iload rfl dX12_makes_317 rfl ?_
  refine r_imul rfl dX12_makes_319 ?_
  refine r_eqi (y := 0) (by decide) ?_
  refine r_iconst (v := 4) rfl dX12_makes_320 (by decide) ?_
  refine r_iload_n rfl dX12_makes_321 rfl ?_
  refine r_imul rfl dX12_makes_322 ?_
  refine r_eqi (y := nI (4 * j)) (show 4 * (nI j) = nI (4 * j) from pk_mul 4 j) ?_
  refine r_iadd rfl dX12_makes_323 ?_
  refine r_eqi (y := nI (0 + (4 * j))) (show 0 + (nI (4 * j)) = nI (0 + (4 * j)) from nI_add 0 (4 * j)) ?_
  refine r_iload rfl dX12_makes_324 rfl ?_
  refine r_iadd rfl dX12_makes_326 ?_
  refine r_eqi (y := nI ((0 + (4 * j)) + k)) (show (nI (0 + (4 * j))) + (nI k) = nI ((0 + (4 * j)) + k) from nI_add (0 + (4 * j)) k) ?_
  refine r_laldv (jn := (0 + (4 * j)) + k) (v := Y ((0 + (4 * j)) + k)) rfl dX12_makes_327 (show 2 ≤ 426 ∧ 426 < 434 by decide) h26 (vp_in_nI (n := (0 + (4 * j)) + k) (by omega) (by decide)) (nI_clamp (n := (0 + (4 * j)) + k) (by omega)) (bkR_n (by omega)) ?_
  refine r_topl (fun x53 e54 => ?_)
  refine r_lstore (ls' := [some (.ref 420), some (.int (nI s)), some (.int (nI i)), some (.int (nI j)), some (.int bt), some (.int le), some (.int no), some (.int (nI n)), some (.int 0), some (.int 1), some (.int 0), some (.int (nI k)), some (.long x51), none, some (.long x53), none, u16, u17, none, u19, none, u21]) rfl dX12_makes_328 (Nat.le_of_ble_eq_true rfl) rfl ?_
  refine r_iload rfl dX12_makes_330 rfl ?_
  refine r_iconst (v := 1) rfl dX12_makes_332 (by decide) ?_
  refine r_icmp_ne (tgt := 341) rfl rfl dX12_makes_333 (fun _ => ?_) (fun zc => absurd zc (by decide))
  refine r_iload rfl dX12_makes_341 rfl ?_
  refine r_if_eq (tgt := 355) rfl rfl dX12_makes_343 (fun _ => ?_) (fun zc => absurd zc (by decide))
  refine r_iconst (v := 0) rfl dX12_makes_355 (by decide) ?_
  refine r_istore (ls' := [some (.ref 420), some (.int (nI s)), some (.int (nI i)), some (.int (nI j)), some (.int bt), some (.int le), some (.int no), some (.int (nI n)), some (.int 0), some (.int 1), some (.int 0), some (.int (nI k)), some (.long x51), none, some (.long x53), none, some (.int 0), u17, none, u19, none, u21]) rfl dX12_makes_356 (Nat.le_of_ble_eq_true rfl) rfl ?_
  refine r_iload rfl dX12_makes_358 rfl ?_
  refine r_if_eq (tgt := 371) rfl rfl dX12_makes_360 (fun _ => ?_) (fun zc => absurd zc (by decide))
  refine r_lload rfl dX12_makes_371 rfl ?_
  refine r_lload rfl dX12_makes_373 rfl ?_
  refine r_land rfl dX12_makes_375 ?_
  refine r_topl (fun x55 e56 => ?_)
  refine r_lstore (ls' := [some (.ref 420), some (.int (nI s)), some (.int (nI i)), some (.int (nI j)), some (.int bt), some (.int le), some (.int no), some (.int (nI n)), some (.int 0), some (.int 1), some (.int 0), some (.int (nI k)), some (.long x51), none, some (.long x53), none, some (.int 0), some (.long x55), none, u19, none, u21]) rfl dX12_makes_376 (Nat.le_of_ble_eq_true rfl) rfl ?_
  refine r_iload rfl dX12_makes_378 rfl ?_
  refine r_iconst (v := 2) rfl dX12_makes_380 (by decide) ?_
  refine r_icmp_ne (tgt := 457) rfl rfl dX12_makes_381 (fun _ => ?_) (fun zc => absurd zc (by decide))
  refine r_aload_n rfl dX12_makes_457 rfl ?_
  refine r_getv 17 rfl dX12_makes_458 (show 2 ≤ 420 ∧ 420 < 434 by decide) h5 fl_X12_30 rfl ?_
  refine r_sipush (v := 160) rfl dX12_makes_461 (by decide) ?_
  refine r_iload rfl dX12_makes_464 rfl ?_
  refine r_imul rfl dX12_makes_466 ?_
  refine r_eqi (y := 0) (by decide) ?_
  refine r_iconst (v := 4) rfl dX12_makes_467 (by decide) ?_
  refine r_iload rfl dX12_makes_468 rfl ?_
  refine r_imul rfl dX12_makes_470 ?_
  refine r_eqi (y := nI (4 * n)) (show 4 * (nI n) = nI (4 * n) from pk_mul 4 n) ?_
  refine r_iadd rfl dX12_makes_471 ?_
  refine r_eqi (y := nI (0 + (4 * n))) (show 0 + (nI (4 * n)) = nI (0 + (4 * n)) from nI_add 0 (4 * n)) ?_
  refine r_iload rfl dX12_makes_472 rfl ?_
  refine r_iadd rfl dX12_makes_474 ?_
  refine r_eqi (y := nI ((0 + (4 * n)) + k)) (show (nI (0 + (4 * n))) + (nI k) = nI ((0 + (4 * n)) + k) from nI_add (0 + (4 * n)) k) ?_
  refine r_lload rfl dX12_makes_475 rfl ?_
  refine e_last (jn := (0 + (4 * n)) + k) rfl dX12_makes_477 (show 2 ≤ 426 ∧ 426 < 434 by decide) hS hF (by decide) h26 (vp_in_nI (n := (0 + (4 * n)) + k) (by omega) (by decide)) (nI_clamp (n := (0 + (4 * n)) + k) (by omega)) (fun h57 hS58 hF59 hN60 f61 => ?_)
  have f62 : h57 420 = .inr (12, [.int th, .long tr, .ref 421, .int ty, .int nx, .int tk, .int pl, .int va, .int fa, .int (nI c), .int (nI m), .int ss, .int wg, .ref 422, .ref 423, .ref 424, .ref 425, .ref 426, .ref 427, .ref 428, .ref 429, .ref 430, .ref 431, .ref 432, .ref 433]) := (hN60 420 (by decide)).trans h5
  have f63 : h57 422 = .inl (0, 240, .inl G) := (hN60 422 (by decide)).trans h22
  refine r_iinc (y := nI (k + 1)) (ls' := [some (.ref 420), some (.int (nI s)), some (.int (nI i)), some (.int (nI j)), some (.int bt), some (.int le), some (.int no), some (.int (nI n)), some (.int 0), some (.int 1), some (.int 0), some (.int (nI (k + 1))), some (.long x51), none, some (.long x53), none, some (.int 0), some (.long x55), none, u19, none, u21]) rfl dX12_makes_478 rfl (nI_1 k) (Nat.le_of_ble_eq_true rfl) rfl ?_
  refine r_goto (pc' := 284) rfl dX12_makes_481 ?_
  subst e56
  subst e54
  subst e52
  exact ih h57 _ _ _ _ _ _ hS58 hF59 f62 f63 (by rw [← bkR_s, show 4 * (n) + k = (0 + (4 * n)) + k by omega]; exact f61)
theorem z_mp010 {xs : Nat → Int32} {L d : Nat} {h0 : ev_H} {th : Int32} {tr : Int64} {ty nx tk pl va fa ss wg : Int32} {c m : Nat} {s i j n : Nat} {bt le no : Int32} {G : Nat → Int32} {Y : Nat → Int64} {Q : ev_Q} (hn : n < 40) (hi : i < n) (hj : j < n) (kx : ∀ (h' : ev_H) (u12 : Option Value) (u14 : Option Value) (u16 : Option Value) (u17 : Option Value) (u19 : Option Value) (u21 : Option Value), SH h' → KM [426] h0 h' → h' 420 = .inr (12, [.int th, .long tr, .ref 421, .int ty, .int nx, .int tk, .int pl, .int va, .int fa, .int (nI c), .int (nI m), .int ss, .int wg, .ref 422, .ref 423, .ref 424, .ref 425, .ref 426, .ref 427, .ref 428, .ref 429, .ref 430, .ref 431, .ref 432, .ref 433]) → h' 422 = .inl (0, 240, .inl G) → h' 426 = .inl (1, 480, .inr (.inl (bkR Y (n) (mkV false true 0 bt Y i j) (4)))) → EV xs L (d + 2) 0 0 M_X12_makes 434 h' 484 [some (.ref 420), some (.int (nI s)), some (.int (nI i)), some (.int (nI j)), some (.int bt), some (.int le), some (.int no), some (.int (nI n)), some (.int 0), some (.int 1), some (.int 0), some (.int (nI 4)), u12, none, u14, none, u16, u17, none, u19, none, u21] [] Q) : ∀ (nn k : Nat) (h : ev_H) (u12 : Option Value) (u14 : Option Value) (u16 : Option Value) (u17 : Option Value) (u19 : Option Value) (u21 : Option Value), k + nn = 4 → SH h → KM [426] h0 h → h 420 = .inr (12, [.int th, .long tr, .ref 421, .int ty, .int nx, .int tk, .int pl, .int va, .int fa, .int (nI c), .int (nI m), .int ss, .int wg, .ref 422, .ref 423, .ref 424, .ref 425, .ref 426, .ref 427, .ref 428, .ref 429, .ref 430, .ref 431, .ref 432, .ref 433]) → h 422 = .inl (0, 240, .inl G) → h 426 = .inl (1, 480, .inr (.inl (bkR Y (n) (mkV false true 0 bt Y i j) (k)))) → EV xs L (d + 2) 0 0 M_X12_makes 434 h 284 [some (.ref 420), some (.int (nI s)), some (.int (nI i)), some (.int (nI j)), some (.int bt), some (.int le), some (.int no), some (.int (nI n)), some (.int 0), some (.int 1), some (.int 0), some (.int (nI k)), u12, none, u14, none, u16, u17, none, u19, none, u21] [] Q := by
  intro nn
  induction nn with
  | zero => intro k h u12 u14 u16 u17 u19 u21 hk hS hF h5 h22 h26; exact z_mp010_z hS hn hi hj kx hF h5 h22 h26 (by omega)
  | succ nn ih => intro k h u12 u14 u16 u17 u19 u21 hk hS hF h5 h22 h26; exact z_mp010_s hS hn hi hj kx hF h5 h22 h26 (by omega) (fun h' u12 u14 u16 u17 u19 u21 q0 q1 q2 q3 q4 => ih (k + 1) h' u12 u14 u16 u17 u19 u21 (by omega) q0 q1 q2 q3 q4)
set_option maxRecDepth 20000 in
set_option maxHeartbeats 1000000 in
theorem z_mp011_z {xs : Nat → Int32} {L d : Nat} {h : ev_H} {h0 : ev_H} {th : Int32} {tr : Int64} {ty nx tk pl va fa ss wg : Int32} {c m : Nat} {s i j n : Nat} {bt le no : Int32} {G : Nat → Int32} {Y : Nat → Int64} {Q : ev_Q} {k : Nat} {u12 : Option Value} {u14 : Option Value} {u16 : Option Value} {u17 : Option Value} {u19 : Option Value} {u21 : Option Value} (hS : SH h) (hn : n < 40) (hi : i < n) (hj : j < n) (kx : ∀ (h' : ev_H) (u12 : Option Value) (u14 : Option Value) (u16 : Option Value) (u17 : Option Value) (u19 : Option Value) (u21 : Option Value), SH h' → KM [426] h0 h' → h' 420 = .inr (12, [.int th, .long tr, .ref 421, .int ty, .int nx, .int tk, .int pl, .int va, .int fa, .int (nI c), .int (nI m), .int ss, .int wg, .ref 422, .ref 423, .ref 424, .ref 425, .ref 426, .ref 427, .ref 428, .ref 429, .ref 430, .ref 431, .ref 432, .ref 433]) → h' 422 = .inl (0, 240, .inl G) → h' 426 = .inl (1, 480, .inr (.inl (bkR Y (40 + n) (mkV false true 1 bt Y i j) (4)))) → EV xs L (d + 2) 0 0 M_X12_makes 434 h' 484 [some (.ref 420), some (.int (nI s)), some (.int (nI i)), some (.int (nI j)), some (.int bt), some (.int le), some (.int no), some (.int (nI n)), some (.int 0), some (.int 1), some (.int 1), some (.int (nI 4)), u12, none, u14, none, u16, u17, none, u19, none, u21] [] Q) (hF : KM [426] h0 h) (h5 : h 420 = .inr (12, [.int th, .long tr, .ref 421, .int ty, .int nx, .int tk, .int pl, .int va, .int fa, .int (nI c), .int (nI m), .int ss, .int wg, .ref 422, .ref 423, .ref 424, .ref 425, .ref 426, .ref 427, .ref 428, .ref 429, .ref 430, .ref 431, .ref 432, .ref 433])) (h22 : h 422 = .inl (0, 240, .inl G)) (h26 : h 426 = .inl (1, 480, .inr (.inl (bkR Y (40 + n) (mkV false true 1 bt Y i j) (k))))) (hk : k = 4) : EV xs L (d + 2) 0 0 M_X12_makes 434 h 284 [some (.ref 420), some (.int (nI s)), some (.int (nI i)), some (.int (nI j)), some (.int bt), some (.int le), some (.int no), some (.int (nI n)), some (.int 0), some (.int 1), some (.int 1), some (.int (nI k)), u12, none, u14, none, u16, u17, none, u19, none, u21] [] Q := by
  refine r_iload rfl dX12_makes_284 rfl ?_
  refine r_iconst (v := 4) rfl dX12_makes_286 (by decide) ?_
  refine r_icmp_ge (tgt := 484) rfl rfl dX12_makes_287 (fun _ => ?_) (fun zc => absurd (show nI (4) ≤ nI k from nI_le (a := 4) (b := k) (by omega) (by omega)) zc)
  subst hk
  exact kx h _ _ _ _ _ _ hS hF h5 h22 h26
set_option maxRecDepth 20000 in
set_option maxHeartbeats 1000000 in
theorem z_mp011_s {xs : Nat → Int32} {L d : Nat} {h : ev_H} {h0 : ev_H} {th : Int32} {tr : Int64} {ty nx tk pl va fa ss wg : Int32} {c m : Nat} {s i j n : Nat} {bt le no : Int32} {G : Nat → Int32} {Y : Nat → Int64} {Q : ev_Q} {k : Nat} {u12 : Option Value} {u14 : Option Value} {u16 : Option Value} {u17 : Option Value} {u19 : Option Value} {u21 : Option Value} (hS : SH h) (hn : n < 40) (hi : i < n) (hj : j < n) (kx : ∀ (h' : ev_H) (u12 : Option Value) (u14 : Option Value) (u16 : Option Value) (u17 : Option Value) (u19 : Option Value) (u21 : Option Value), SH h' → KM [426] h0 h' → h' 420 = .inr (12, [.int th, .long tr, .ref 421, .int ty, .int nx, .int tk, .int pl, .int va, .int fa, .int (nI c), .int (nI m), .int ss, .int wg, .ref 422, .ref 423, .ref 424, .ref 425, .ref 426, .ref 427, .ref 428, .ref 429, .ref 430, .ref 431, .ref 432, .ref 433]) → h' 422 = .inl (0, 240, .inl G) → h' 426 = .inl (1, 480, .inr (.inl (bkR Y (40 + n) (mkV false true 1 bt Y i j) (4)))) → EV xs L (d + 2) 0 0 M_X12_makes 434 h' 484 [some (.ref 420), some (.int (nI s)), some (.int (nI i)), some (.int (nI j)), some (.int bt), some (.int le), some (.int no), some (.int (nI n)), some (.int 0), some (.int 1), some (.int 1), some (.int (nI 4)), u12, none, u14, none, u16, u17, none, u19, none, u21] [] Q) (hF : KM [426] h0 h) (h5 : h 420 = .inr (12, [.int th, .long tr, .ref 421, .int ty, .int nx, .int tk, .int pl, .int va, .int fa, .int (nI c), .int (nI m), .int ss, .int wg, .ref 422, .ref 423, .ref 424, .ref 425, .ref 426, .ref 427, .ref 428, .ref 429, .ref 430, .ref 431, .ref 432, .ref 433])) (h22 : h 422 = .inl (0, 240, .inl G)) (h26 : h 426 = .inl (1, 480, .inr (.inl (bkR Y (40 + n) (mkV false true 1 bt Y i j) (k))))) (hk : k < 4) (ih : ∀ (h' : ev_H) (u12' : Option Value) (u14' : Option Value) (u16' : Option Value) (u17' : Option Value) (u19' : Option Value) (u21' : Option Value), SH h' → KM [426] h0 h' → h' 420 = .inr (12, [.int th, .long tr, .ref 421, .int ty, .int nx, .int tk, .int pl, .int va, .int fa, .int (nI c), .int (nI m), .int ss, .int wg, .ref 422, .ref 423, .ref 424, .ref 425, .ref 426, .ref 427, .ref 428, .ref 429, .ref 430, .ref 431, .ref 432, .ref 433]) → h' 422 = .inl (0, 240, .inl G) → h' 426 = .inl (1, 480, .inr (.inl (bkR Y (40 + n) (mkV false true 1 bt Y i j) (k + 1)))) → EV xs L (d + 2) 0 0 M_X12_makes 434 h' 284 [some (.ref 420), some (.int (nI s)), some (.int (nI i)), some (.int (nI j)), some (.int bt), some (.int le), some (.int no), some (.int (nI n)), some (.int 0), some (.int 1), some (.int 1), some (.int (nI (k + 1))), u12', none, u14', none, u16', u17', none, u19', none, u21'] [] Q) : EV xs L (d + 2) 0 0 M_X12_makes 434 h 284 [some (.ref 420), some (.int (nI s)), some (.int (nI i)), some (.int (nI j)), some (.int bt), some (.int le), some (.int no), some (.int (nI n)), some (.int 0), some (.int 1), some (.int 1), some (.int (nI k)), u12, none, u14, none, u16, u17, none, u19, none, u21] [] Q := by
  refine r_iload rfl dX12_makes_284 rfl ?_
  refine r_iconst (v := 4) rfl dX12_makes_286 (by decide) ?_
  refine r_icmp_ge (tgt := 484) rfl rfl dX12_makes_287 (fun zc => absurd zc (show ¬ nI (4) ≤ nI k from nI_ge (a := k) (b := 4) (by omega) (by omega))) (fun _ => ?_)
  refine r_aload_n rfl dX12_makes_290 rfl ?_
  refine r_getv 17 rfl dX12_makes_291 (show 2 ≤ 420 ∧ 420 < 434 by decide) h5 fl_X12_30 rfl ?_
  refine r_sipush (v := 160) rfl dX12_makes_294 (by decide) ?_
  refine r_iload rfl dX12_makes_297 rfl ?_
  refine r_imul rfl dX12_makes_299 ?_
  refine r_eqi (y := 160) (by decide) ?_
  refine r_iconst (v := 4) rfl dX12_makes_300 (by decide) ?_
  refine r_iload_n rfl dX12_makes_301 rfl ?_
  refine r_imul rfl dX12_makes_302 ?_
  refine r_eqi (y := nI (4 * i)) (show 4 * (nI i) = nI (4 * i) from pk_mul 4 i) ?_
  refine r_iadd rfl dX12_makes_303 ?_
  refine r_eqi (y := nI (160 + (4 * i))) (show 160 + (nI (4 * i)) = nI (160 + (4 * i)) from nI_add 160 (4 * i)) ?_
  refine r_iload rfl dX12_makes_304 rfl ?_
  refine r_iadd rfl dX12_makes_306 ?_
  refine r_eqi (y := nI ((160 + (4 * i)) + k)) (show (nI (160 + (4 * i))) + (nI k) = nI ((160 + (4 * i)) + k) from nI_add (160 + (4 * i)) k) ?_
  refine r_laldv (jn := (160 + (4 * i)) + k) (v := Y ((160 + (4 * i)) + k)) rfl dX12_makes_307 (show 2 ≤ 426 ∧ 426 < 434 by decide) h26 (vp_in_nI (n := (160 + (4 * i)) + k) (by omega) (by decide)) (nI_clamp (n := (160 + (4 * i)) + k) (by omega)) (bkR_n (by omega)) ?_
  refine r_topl (fun x51 e52 => ?_)
  refine r_lstore (ls' := [some (.ref 420), some (.int (nI s)), some (.int (nI i)), some (.int (nI j)), some (.int bt), some (.int le), some (.int no), some (.int (nI n)), some (.int 0), some (.int 1), some (.int 1), some (.int (nI k)), some (.long x51), none, u14, none, u16, u17, none, u19, none, u21]) rfl dX12_makes_308 (Nat.le_of_ble_eq_true rfl) rfl ?_
  refine r_aload_n rfl dX12_makes_310 rfl ?_
  refine r_getv 17 rfl dX12_makes_311 (show 2 ≤ 420 ∧ 420 < 434 by decide) h5 fl_X12_30 rfl ?_
  refine r_sipush (v := 160) rfl dX12_makes_314 (by decide) ?_
  refine r_iload rfl dX12_makes_317 rfl ?_
  refine r_imul rfl dX12_makes_319 ?_
  refine r_eqi (y := 160) (by decide) ?_
  refine r_iconst (v := 4) rfl dX12_makes_320 (by decide) ?_
  refine r_iload_n rfl dX12_makes_321 rfl ?_
  refine r_imul rfl dX12_makes_322 ?_
  refine r_eqi (y := nI (4 * j)) (show 4 * (nI j) = nI (4 * j) from pk_mul 4 j) ?_
  refine r_iadd rfl dX12_makes_323 ?_
  refine r_eqi (y := nI (160 + (4 * j))) (show 160 + (nI (4 * j)) = nI (160 + (4 * j)) from nI_add 160 (4 * j)) ?_
  refine r_iload rfl dX12_makes_324 rfl ?_
  refine r_iadd rfl dX12_makes_326 ?_
  refine r_eqi (y := nI ((160 + (4 * j)) + k)) (show (nI (160 + (4 * j))) + (nI k) = nI ((160 + (4 * j)) + k) from nI_add (160 + (4 * j)) k) ?_
  refine r_laldv (jn := (160 + (4 * j)) + k) (v := Y ((160 + (4 * j)) + k)) rfl dX12_makes_327 (show 2 ≤ 426 ∧ 426 < 434 by decide) h26 (vp_in_nI (n := (160 + (4 * j)) + k) (by omega) (by decide)) (nI_clamp (n := (160 + (4 * j)) + k) (by omega)) (bkR_n (by omega)) ?_
  refine r_topl (fun x53 e54 => ?_)
  refine r_lstore (ls' := [some (.ref 420), some (.int (nI s)), some (.int (nI i)), some (.int (nI j)), some (.int bt), some (.int le), some (.int no), some (.int (nI n)), some (.int 0), some (.int 1), some (.int 1), some (.int (nI k)), some (.long x51), none, some (.long x53), none, u16, u17, none, u19, none, u21]) rfl dX12_makes_328 (Nat.le_of_ble_eq_true rfl) rfl ?_
  refine r_iload rfl dX12_makes_330 rfl ?_
  refine r_iconst (v := 1) rfl dX12_makes_332 (by decide) ?_
  refine r_icmp_ne (tgt := 341) rfl rfl dX12_makes_333 (fun zc => absurd zc (by decide)) (fun _ => ?_)
  refine r_iload rfl dX12_makes_336 rfl ?_
  refine r_goto (pc' := 356) rfl dX12_makes_338 ?_
  refine r_istore (ls' := [some (.ref 420), some (.int (nI s)), some (.int (nI i)), some (.int (nI j)), some (.int bt), some (.int le), some (.int no), some (.int (nI n)), some (.int 0), some (.int 1), some (.int 1), some (.int (nI k)), some (.long x51), none, some (.long x53), none, some (.int 0), u17, none, u19, none, u21]) rfl dX12_makes_356 (Nat.le_of_ble_eq_true rfl) rfl ?_
  refine r_iload rfl dX12_makes_358 rfl ?_
  refine r_if_eq (tgt := 371) rfl rfl dX12_makes_360 (fun _ => ?_) (fun zc => absurd zc (by decide))
  refine r_lload rfl dX12_makes_371 rfl ?_
  refine r_lload rfl dX12_makes_373 rfl ?_
  refine r_land rfl dX12_makes_375 ?_
  refine r_topl (fun x55 e56 => ?_)
  refine r_lstore (ls' := [some (.ref 420), some (.int (nI s)), some (.int (nI i)), some (.int (nI j)), some (.int bt), some (.int le), some (.int no), some (.int (nI n)), some (.int 0), some (.int 1), some (.int 1), some (.int (nI k)), some (.long x51), none, some (.long x53), none, some (.int 0), some (.long x55), none, u19, none, u21]) rfl dX12_makes_376 (Nat.le_of_ble_eq_true rfl) rfl ?_
  refine r_iload rfl dX12_makes_378 rfl ?_
  refine r_iconst (v := 2) rfl dX12_makes_380 (by decide) ?_
  refine r_icmp_ne (tgt := 457) rfl rfl dX12_makes_381 (fun _ => ?_) (fun zc => absurd zc (by decide))
  refine r_aload_n rfl dX12_makes_457 rfl ?_
  refine r_getv 17 rfl dX12_makes_458 (show 2 ≤ 420 ∧ 420 < 434 by decide) h5 fl_X12_30 rfl ?_
  refine r_sipush (v := 160) rfl dX12_makes_461 (by decide) ?_
  refine r_iload rfl dX12_makes_464 rfl ?_
  refine r_imul rfl dX12_makes_466 ?_
  refine r_eqi (y := 160) (by decide) ?_
  refine r_iconst (v := 4) rfl dX12_makes_467 (by decide) ?_
  refine r_iload rfl dX12_makes_468 rfl ?_
  refine r_imul rfl dX12_makes_470 ?_
  refine r_eqi (y := nI (4 * n)) (show 4 * (nI n) = nI (4 * n) from pk_mul 4 n) ?_
  refine r_iadd rfl dX12_makes_471 ?_
  refine r_eqi (y := nI (160 + (4 * n))) (show 160 + (nI (4 * n)) = nI (160 + (4 * n)) from nI_add 160 (4 * n)) ?_
  refine r_iload rfl dX12_makes_472 rfl ?_
  refine r_iadd rfl dX12_makes_474 ?_
  refine r_eqi (y := nI ((160 + (4 * n)) + k)) (show (nI (160 + (4 * n))) + (nI k) = nI ((160 + (4 * n)) + k) from nI_add (160 + (4 * n)) k) ?_
  refine r_lload rfl dX12_makes_475 rfl ?_
  refine e_last (jn := (160 + (4 * n)) + k) rfl dX12_makes_477 (show 2 ≤ 426 ∧ 426 < 434 by decide) hS hF (by decide) h26 (vp_in_nI (n := (160 + (4 * n)) + k) (by omega) (by decide)) (nI_clamp (n := (160 + (4 * n)) + k) (by omega)) (fun h57 hS58 hF59 hN60 f61 => ?_)
  have f62 : h57 420 = .inr (12, [.int th, .long tr, .ref 421, .int ty, .int nx, .int tk, .int pl, .int va, .int fa, .int (nI c), .int (nI m), .int ss, .int wg, .ref 422, .ref 423, .ref 424, .ref 425, .ref 426, .ref 427, .ref 428, .ref 429, .ref 430, .ref 431, .ref 432, .ref 433]) := (hN60 420 (by decide)).trans h5
  have f63 : h57 422 = .inl (0, 240, .inl G) := (hN60 422 (by decide)).trans h22
  refine r_iinc (y := nI (k + 1)) (ls' := [some (.ref 420), some (.int (nI s)), some (.int (nI i)), some (.int (nI j)), some (.int bt), some (.int le), some (.int no), some (.int (nI n)), some (.int 0), some (.int 1), some (.int 1), some (.int (nI (k + 1))), some (.long x51), none, some (.long x53), none, some (.int 0), some (.long x55), none, u19, none, u21]) rfl dX12_makes_478 rfl (nI_1 k) (Nat.le_of_ble_eq_true rfl) rfl ?_
  refine r_goto (pc' := 284) rfl dX12_makes_481 ?_
  subst e56
  subst e54
  subst e52
  exact ih h57 _ _ _ _ _ _ hS58 hF59 f62 f63 (by rw [← bkR_s, show 4 * (40 + n) + k = (160 + (4 * n)) + k by omega]; exact f61)
theorem z_mp011 {xs : Nat → Int32} {L d : Nat} {h0 : ev_H} {th : Int32} {tr : Int64} {ty nx tk pl va fa ss wg : Int32} {c m : Nat} {s i j n : Nat} {bt le no : Int32} {G : Nat → Int32} {Y : Nat → Int64} {Q : ev_Q} (hn : n < 40) (hi : i < n) (hj : j < n) (kx : ∀ (h' : ev_H) (u12 : Option Value) (u14 : Option Value) (u16 : Option Value) (u17 : Option Value) (u19 : Option Value) (u21 : Option Value), SH h' → KM [426] h0 h' → h' 420 = .inr (12, [.int th, .long tr, .ref 421, .int ty, .int nx, .int tk, .int pl, .int va, .int fa, .int (nI c), .int (nI m), .int ss, .int wg, .ref 422, .ref 423, .ref 424, .ref 425, .ref 426, .ref 427, .ref 428, .ref 429, .ref 430, .ref 431, .ref 432, .ref 433]) → h' 422 = .inl (0, 240, .inl G) → h' 426 = .inl (1, 480, .inr (.inl (bkR Y (40 + n) (mkV false true 1 bt Y i j) (4)))) → EV xs L (d + 2) 0 0 M_X12_makes 434 h' 484 [some (.ref 420), some (.int (nI s)), some (.int (nI i)), some (.int (nI j)), some (.int bt), some (.int le), some (.int no), some (.int (nI n)), some (.int 0), some (.int 1), some (.int 1), some (.int (nI 4)), u12, none, u14, none, u16, u17, none, u19, none, u21] [] Q) : ∀ (nn k : Nat) (h : ev_H) (u12 : Option Value) (u14 : Option Value) (u16 : Option Value) (u17 : Option Value) (u19 : Option Value) (u21 : Option Value), k + nn = 4 → SH h → KM [426] h0 h → h 420 = .inr (12, [.int th, .long tr, .ref 421, .int ty, .int nx, .int tk, .int pl, .int va, .int fa, .int (nI c), .int (nI m), .int ss, .int wg, .ref 422, .ref 423, .ref 424, .ref 425, .ref 426, .ref 427, .ref 428, .ref 429, .ref 430, .ref 431, .ref 432, .ref 433]) → h 422 = .inl (0, 240, .inl G) → h 426 = .inl (1, 480, .inr (.inl (bkR Y (40 + n) (mkV false true 1 bt Y i j) (k)))) → EV xs L (d + 2) 0 0 M_X12_makes 434 h 284 [some (.ref 420), some (.int (nI s)), some (.int (nI i)), some (.int (nI j)), some (.int bt), some (.int le), some (.int no), some (.int (nI n)), some (.int 0), some (.int 1), some (.int 1), some (.int (nI k)), u12, none, u14, none, u16, u17, none, u19, none, u21] [] Q := by
  intro nn
  induction nn with
  | zero => intro k h u12 u14 u16 u17 u19 u21 hk hS hF h5 h22 h26; exact z_mp011_z hS hn hi hj kx hF h5 h22 h26 (by omega)
  | succ nn ih => intro k h u12 u14 u16 u17 u19 u21 hk hS hF h5 h22 h26; exact z_mp011_s hS hn hi hj kx hF h5 h22 h26 (by omega) (fun h' u12 u14 u16 u17 u19 u21 q0 q1 q2 q3 q4 => ih (k + 1) h' u12 u14 u16 u17 u19 u21 (by omega) q0 q1 q2 q3 q4)
set_option maxRecDepth 20000 in
set_option maxHeartbeats 1000000 in
theorem z_mp012_z {xs : Nat → Int32} {L d : Nat} {h : ev_H} {h0 : ev_H} {th : Int32} {tr : Int64} {ty nx tk pl va fa ss wg : Int32} {c m : Nat} {s i j n : Nat} {bt le no : Int32} {G : Nat → Int32} {Y : Nat → Int64} {Q : ev_Q} {k : Nat} {u12 : Option Value} {u14 : Option Value} {u16 : Option Value} {u17 : Option Value} {u19 : Option Value} {u21 : Option Value} (hS : SH h) (hn : n < 40) (hi : i < n) (hj : j < n) (kx : ∀ (h' : ev_H) (u12 : Option Value) (u14 : Option Value) (u16 : Option Value) (u17 : Option Value) (u19 : Option Value) (u21 : Option Value), SH h' → KM [426] h0 h' → h' 420 = .inr (12, [.int th, .long tr, .ref 421, .int ty, .int nx, .int tk, .int pl, .int va, .int fa, .int (nI c), .int (nI m), .int ss, .int wg, .ref 422, .ref 423, .ref 424, .ref 425, .ref 426, .ref 427, .ref 428, .ref 429, .ref 430, .ref 431, .ref 432, .ref 433]) → h' 422 = .inl (0, 240, .inl G) → h' 426 = .inl (1, 480, .inr (.inl (bkR Y (80 + n) (mkV false true 2 bt Y i j) (4)))) → EV xs L (d + 2) 0 0 M_X12_makes 434 h' 484 [some (.ref 420), some (.int (nI s)), some (.int (nI i)), some (.int (nI j)), some (.int bt), some (.int le), some (.int no), some (.int (nI n)), some (.int 0), some (.int 1), some (.int 2), some (.int (nI 4)), u12, none, u14, none, u16, u17, none, u19, none, u21] [] Q) (hF : KM [426] h0 h) (h5 : h 420 = .inr (12, [.int th, .long tr, .ref 421, .int ty, .int nx, .int tk, .int pl, .int va, .int fa, .int (nI c), .int (nI m), .int ss, .int wg, .ref 422, .ref 423, .ref 424, .ref 425, .ref 426, .ref 427, .ref 428, .ref 429, .ref 430, .ref 431, .ref 432, .ref 433])) (h22 : h 422 = .inl (0, 240, .inl G)) (h26 : h 426 = .inl (1, 480, .inr (.inl (bkR Y (80 + n) (mkV false true 2 bt Y i j) (k))))) (hk : k = 4) : EV xs L (d + 2) 0 0 M_X12_makes 434 h 284 [some (.ref 420), some (.int (nI s)), some (.int (nI i)), some (.int (nI j)), some (.int bt), some (.int le), some (.int no), some (.int (nI n)), some (.int 0), some (.int 1), some (.int 2), some (.int (nI k)), u12, none, u14, none, u16, u17, none, u19, none, u21] [] Q := by
  refine r_iload rfl dX12_makes_284 rfl ?_
  refine r_iconst (v := 4) rfl dX12_makes_286 (by decide) ?_
  refine r_icmp_ge (tgt := 484) rfl rfl dX12_makes_287 (fun _ => ?_) (fun zc => absurd (show nI (4) ≤ nI k from nI_le (a := 4) (b := k) (by omega) (by omega)) zc)
  subst hk
  exact kx h _ _ _ _ _ _ hS hF h5 h22 h26
set_option maxRecDepth 20000 in
set_option maxHeartbeats 1000000 in
theorem z_mp012_s {xs : Nat → Int32} {L d : Nat} {h : ev_H} {h0 : ev_H} {th : Int32} {tr : Int64} {ty nx tk pl va fa ss wg : Int32} {c m : Nat} {s i j n : Nat} {bt le no : Int32} {G : Nat → Int32} {Y : Nat → Int64} {Q : ev_Q} {k : Nat} {u12 : Option Value} {u14 : Option Value} {u16 : Option Value} {u17 : Option Value} {u19 : Option Value} {u21 : Option Value} (hS : SH h) (hn : n < 40) (hi : i < n) (hj : j < n) (kx : ∀ (h' : ev_H) (u12 : Option Value) (u14 : Option Value) (u16 : Option Value) (u17 : Option Value) (u19 : Option Value) (u21 : Option Value), SH h' → KM [426] h0 h' → h' 420 = .inr (12, [.int th, .long tr, .ref 421, .int ty, .int nx, .int tk, .int pl, .int va, .int fa, .int (nI c), .int (nI m), .int ss, .int wg, .ref 422, .ref 423, .ref 424, .ref 425, .ref 426, .ref 427, .ref 428, .ref 429, .ref 430, .ref 431, .ref 432, .ref 433]) → h' 422 = .inl (0, 240, .inl G) → h' 426 = .inl (1, 480, .inr (.inl (bkR Y (80 + n) (mkV false true 2 bt Y i j) (4)))) → EV xs L (d + 2) 0 0 M_X12_makes 434 h' 484 [some (.ref 420), some (.int (nI s)), some (.int (nI i)), some (.int (nI j)), some (.int bt), some (.int le), some (.int no), some (.int (nI n)), some (.int 0), some (.int 1), some (.int 2), some (.int (nI 4)), u12, none, u14, none, u16, u17, none, u19, none, u21] [] Q) (hF : KM [426] h0 h) (h5 : h 420 = .inr (12, [.int th, .long tr, .ref 421, .int ty, .int nx, .int tk, .int pl, .int va, .int fa, .int (nI c), .int (nI m), .int ss, .int wg, .ref 422, .ref 423, .ref 424, .ref 425, .ref 426, .ref 427, .ref 428, .ref 429, .ref 430, .ref 431, .ref 432, .ref 433])) (h22 : h 422 = .inl (0, 240, .inl G)) (h26 : h 426 = .inl (1, 480, .inr (.inl (bkR Y (80 + n) (mkV false true 2 bt Y i j) (k))))) (hk : k < 4) (ih : ∀ (h' : ev_H) (u12' : Option Value) (u14' : Option Value) (u16' : Option Value) (u17' : Option Value) (u19' : Option Value) (u21' : Option Value), SH h' → KM [426] h0 h' → h' 420 = .inr (12, [.int th, .long tr, .ref 421, .int ty, .int nx, .int tk, .int pl, .int va, .int fa, .int (nI c), .int (nI m), .int ss, .int wg, .ref 422, .ref 423, .ref 424, .ref 425, .ref 426, .ref 427, .ref 428, .ref 429, .ref 430, .ref 431, .ref 432, .ref 433]) → h' 422 = .inl (0, 240, .inl G) → h' 426 = .inl (1, 480, .inr (.inl (bkR Y (80 + n) (mkV false true 2 bt Y i j) (k + 1)))) → EV xs L (d + 2) 0 0 M_X12_makes 434 h' 284 [some (.ref 420), some (.int (nI s)), some (.int (nI i)), some (.int (nI j)), some (.int bt), some (.int le), some (.int no), some (.int (nI n)), some (.int 0), some (.int 1), some (.int 2), some (.int (nI (k + 1))), u12', none, u14', none, u16', u17', none, u19', none, u21'] [] Q) : EV xs L (d + 2) 0 0 M_X12_makes 434 h 284 [some (.ref 420), some (.int (nI s)), some (.int (nI i)), some (.int (nI j)), some (.int bt), some (.int le), some (.int no), some (.int (nI n)), some (.int 0), some (.int 1), some (.int 2), some (.int (nI k)), u12, none, u14, none, u16, u17, none, u19, none, u21] [] Q := by
  refine r_iload rfl dX12_makes_284 rfl ?_
  refine r_iconst (v := 4) rfl dX12_makes_286 (by decide) ?_
  refine r_icmp_ge (tgt := 484) rfl rfl dX12_makes_287 (fun zc => absurd zc (show ¬ nI (4) ≤ nI k from nI_ge (a := k) (b := 4) (by omega) (by omega))) (fun _ => ?_)
  refine r_aload_n rfl dX12_makes_290 rfl ?_
  refine r_getv 17 rfl dX12_makes_291 (show 2 ≤ 420 ∧ 420 < 434 by decide) h5 fl_X12_30 rfl ?_
  refine r_sipush (v := 160) rfl dX12_makes_294 (by decide) ?_
  refine r_iload rfl dX12_makes_297 rfl ?_
  refine r_imul rfl dX12_makes_299 ?_
  refine r_eqi (y := 320) (by decide) ?_
  refine r_iconst (v := 4) rfl dX12_makes_300 (by decide) ?_
  refine r_iload_n rfl dX12_makes_301 rfl ?_
  refine r_imul rfl dX12_makes_302 ?_
  refine r_eqi (y := nI (4 * i)) (show 4 * (nI i) = nI (4 * i) from pk_mul 4 i) ?_
  refine r_iadd rfl dX12_makes_303 ?_
  refine r_eqi (y := nI (320 + (4 * i))) (show 320 + (nI (4 * i)) = nI (320 + (4 * i)) from nI_add 320 (4 * i)) ?_
  refine r_iload rfl dX12_makes_304 rfl ?_
  refine r_iadd rfl dX12_makes_306 ?_
  refine r_eqi (y := nI ((320 + (4 * i)) + k)) (show (nI (320 + (4 * i))) + (nI k) = nI ((320 + (4 * i)) + k) from nI_add (320 + (4 * i)) k) ?_
  refine r_laldv (jn := (320 + (4 * i)) + k) (v := Y ((320 + (4 * i)) + k)) rfl dX12_makes_307 (show 2 ≤ 426 ∧ 426 < 434 by decide) h26 (vp_in_nI (n := (320 + (4 * i)) + k) (by omega) (by decide)) (nI_clamp (n := (320 + (4 * i)) + k) (by omega)) (bkR_n (by omega)) ?_
  refine r_topl (fun x51 e52 => ?_)
  refine r_lstore (ls' := [some (.ref 420), some (.int (nI s)), some (.int (nI i)), some (.int (nI j)), some (.int bt), some (.int le), some (.int no), some (.int (nI n)), some (.int 0), some (.int 1), some (.int 2), some (.int (nI k)), some (.long x51), none, u14, none, u16, u17, none, u19, none, u21]) rfl dX12_makes_308 (Nat.le_of_ble_eq_true rfl) rfl ?_
  refine r_aload_n rfl dX12_makes_310 rfl ?_
  refine r_getv 17 rfl dX12_makes_311 (show 2 ≤ 420 ∧ 420 < 434 by decide) h5 fl_X12_30 rfl ?_
  refine r_sipush (v := 160) rfl dX12_makes_314 (by decide) ?_
  refine r_iload rfl dX12_makes_317 rfl ?_
  refine r_imul rfl dX12_makes_319 ?_
  refine r_eqi (y := 320) (by decide) ?_
  refine r_iconst (v := 4) rfl dX12_makes_320 (by decide) ?_
  refine r_iload_n rfl dX12_makes_321 rfl ?_
  refine r_imul rfl dX12_makes_322 ?_
  refine r_eqi (y := nI (4 * j)) (show 4 * (nI j) = nI (4 * j) from pk_mul 4 j) ?_
  refine r_iadd rfl dX12_makes_323 ?_
  refine r_eqi (y := nI (320 + (4 * j))) (show 320 + (nI (4 * j)) = nI (320 + (4 * j)) from nI_add 320 (4 * j)) ?_
  refine r_iload rfl dX12_makes_324 rfl ?_
  refine r_iadd rfl dX12_makes_326 ?_
  refine r_eqi (y := nI ((320 + (4 * j)) + k)) (show (nI (320 + (4 * j))) + (nI k) = nI ((320 + (4 * j)) + k) from nI_add (320 + (4 * j)) k) ?_
  refine r_laldv (jn := (320 + (4 * j)) + k) (v := Y ((320 + (4 * j)) + k)) rfl dX12_makes_327 (show 2 ≤ 426 ∧ 426 < 434 by decide) h26 (vp_in_nI (n := (320 + (4 * j)) + k) (by omega) (by decide)) (nI_clamp (n := (320 + (4 * j)) + k) (by omega)) (bkR_n (by omega)) ?_
  refine r_topl (fun x53 e54 => ?_)
  refine r_lstore (ls' := [some (.ref 420), some (.int (nI s)), some (.int (nI i)), some (.int (nI j)), some (.int bt), some (.int le), some (.int no), some (.int (nI n)), some (.int 0), some (.int 1), some (.int 2), some (.int (nI k)), some (.long x51), none, some (.long x53), none, u16, u17, none, u19, none, u21]) rfl dX12_makes_328 (Nat.le_of_ble_eq_true rfl) rfl ?_
  refine r_iload rfl dX12_makes_330 rfl ?_
  refine r_iconst (v := 1) rfl dX12_makes_332 (by decide) ?_
  refine r_icmp_ne (tgt := 341) rfl rfl dX12_makes_333 (fun _ => ?_) (fun zc => absurd zc (by decide))
  refine r_iload rfl dX12_makes_341 rfl ?_
  refine r_if_eq (tgt := 355) rfl rfl dX12_makes_343 (fun _ => ?_) (fun zc => absurd zc (by decide))
  refine r_iconst (v := 0) rfl dX12_makes_355 (by decide) ?_
  refine r_istore (ls' := [some (.ref 420), some (.int (nI s)), some (.int (nI i)), some (.int (nI j)), some (.int bt), some (.int le), some (.int no), some (.int (nI n)), some (.int 0), some (.int 1), some (.int 2), some (.int (nI k)), some (.long x51), none, some (.long x53), none, some (.int 0), u17, none, u19, none, u21]) rfl dX12_makes_356 (Nat.le_of_ble_eq_true rfl) rfl ?_
  refine r_iload rfl dX12_makes_358 rfl ?_
  refine r_if_eq (tgt := 371) rfl rfl dX12_makes_360 (fun _ => ?_) (fun zc => absurd zc (by decide))
  refine r_lload rfl dX12_makes_371 rfl ?_
  refine r_lload rfl dX12_makes_373 rfl ?_
  refine r_land rfl dX12_makes_375 ?_
  refine r_topl (fun x55 e56 => ?_)
  refine r_lstore (ls' := [some (.ref 420), some (.int (nI s)), some (.int (nI i)), some (.int (nI j)), some (.int bt), some (.int le), some (.int no), some (.int (nI n)), some (.int 0), some (.int 1), some (.int 2), some (.int (nI k)), some (.long x51), none, some (.long x53), none, some (.int 0), some (.long x55), none, u19, none, u21]) rfl dX12_makes_376 (Nat.le_of_ble_eq_true rfl) rfl ?_
  refine r_iload rfl dX12_makes_378 rfl ?_
  refine r_iconst (v := 2) rfl dX12_makes_380 (by decide) ?_
  refine r_icmp_ne (tgt := 457) rfl rfl dX12_makes_381 (fun zc => absurd zc (by decide)) (fun _ => ?_)
  refine r_iload rfl dX12_makes_384 rfl ?_
  refine r_if_eq (tgt := 457) rfl rfl dX12_makes_386 (fun _ => ?_) (fun zc => absurd zc (by decide))
  refine r_aload_n rfl dX12_makes_457 rfl ?_
  refine r_getv 17 rfl dX12_makes_458 (show 2 ≤ 420 ∧ 420 < 434 by decide) h5 fl_X12_30 rfl ?_
  refine r_sipush (v := 160) rfl dX12_makes_461 (by decide) ?_
  refine r_iload rfl dX12_makes_464 rfl ?_
  refine r_imul rfl dX12_makes_466 ?_
  refine r_eqi (y := 320) (by decide) ?_
  refine r_iconst (v := 4) rfl dX12_makes_467 (by decide) ?_
  refine r_iload rfl dX12_makes_468 rfl ?_
  refine r_imul rfl dX12_makes_470 ?_
  refine r_eqi (y := nI (4 * n)) (show 4 * (nI n) = nI (4 * n) from pk_mul 4 n) ?_
  refine r_iadd rfl dX12_makes_471 ?_
  refine r_eqi (y := nI (320 + (4 * n))) (show 320 + (nI (4 * n)) = nI (320 + (4 * n)) from nI_add 320 (4 * n)) ?_
  refine r_iload rfl dX12_makes_472 rfl ?_
  refine r_iadd rfl dX12_makes_474 ?_
  refine r_eqi (y := nI ((320 + (4 * n)) + k)) (show (nI (320 + (4 * n))) + (nI k) = nI ((320 + (4 * n)) + k) from nI_add (320 + (4 * n)) k) ?_
  refine r_lload rfl dX12_makes_475 rfl ?_
  refine e_last (jn := (320 + (4 * n)) + k) rfl dX12_makes_477 (show 2 ≤ 426 ∧ 426 < 434 by decide) hS hF (by decide) h26 (vp_in_nI (n := (320 + (4 * n)) + k) (by omega) (by decide)) (nI_clamp (n := (320 + (4 * n)) + k) (by omega)) (fun h57 hS58 hF59 hN60 f61 => ?_)
  have f62 : h57 420 = .inr (12, [.int th, .long tr, .ref 421, .int ty, .int nx, .int tk, .int pl, .int va, .int fa, .int (nI c), .int (nI m), .int ss, .int wg, .ref 422, .ref 423, .ref 424, .ref 425, .ref 426, .ref 427, .ref 428, .ref 429, .ref 430, .ref 431, .ref 432, .ref 433]) := (hN60 420 (by decide)).trans h5
  have f63 : h57 422 = .inl (0, 240, .inl G) := (hN60 422 (by decide)).trans h22
  refine r_iinc (y := nI (k + 1)) (ls' := [some (.ref 420), some (.int (nI s)), some (.int (nI i)), some (.int (nI j)), some (.int bt), some (.int le), some (.int no), some (.int (nI n)), some (.int 0), some (.int 1), some (.int 2), some (.int (nI (k + 1))), some (.long x51), none, some (.long x53), none, some (.int 0), some (.long x55), none, u19, none, u21]) rfl dX12_makes_478 rfl (nI_1 k) (Nat.le_of_ble_eq_true rfl) rfl ?_
  refine r_goto (pc' := 284) rfl dX12_makes_481 ?_
  subst e56
  subst e54
  subst e52
  exact ih h57 _ _ _ _ _ _ hS58 hF59 f62 f63 (by rw [← bkR_s, show 4 * (80 + n) + k = (320 + (4 * n)) + k by omega]; exact f61)
theorem z_mp012 {xs : Nat → Int32} {L d : Nat} {h0 : ev_H} {th : Int32} {tr : Int64} {ty nx tk pl va fa ss wg : Int32} {c m : Nat} {s i j n : Nat} {bt le no : Int32} {G : Nat → Int32} {Y : Nat → Int64} {Q : ev_Q} (hn : n < 40) (hi : i < n) (hj : j < n) (kx : ∀ (h' : ev_H) (u12 : Option Value) (u14 : Option Value) (u16 : Option Value) (u17 : Option Value) (u19 : Option Value) (u21 : Option Value), SH h' → KM [426] h0 h' → h' 420 = .inr (12, [.int th, .long tr, .ref 421, .int ty, .int nx, .int tk, .int pl, .int va, .int fa, .int (nI c), .int (nI m), .int ss, .int wg, .ref 422, .ref 423, .ref 424, .ref 425, .ref 426, .ref 427, .ref 428, .ref 429, .ref 430, .ref 431, .ref 432, .ref 433]) → h' 422 = .inl (0, 240, .inl G) → h' 426 = .inl (1, 480, .inr (.inl (bkR Y (80 + n) (mkV false true 2 bt Y i j) (4)))) → EV xs L (d + 2) 0 0 M_X12_makes 434 h' 484 [some (.ref 420), some (.int (nI s)), some (.int (nI i)), some (.int (nI j)), some (.int bt), some (.int le), some (.int no), some (.int (nI n)), some (.int 0), some (.int 1), some (.int 2), some (.int (nI 4)), u12, none, u14, none, u16, u17, none, u19, none, u21] [] Q) : ∀ (nn k : Nat) (h : ev_H) (u12 : Option Value) (u14 : Option Value) (u16 : Option Value) (u17 : Option Value) (u19 : Option Value) (u21 : Option Value), k + nn = 4 → SH h → KM [426] h0 h → h 420 = .inr (12, [.int th, .long tr, .ref 421, .int ty, .int nx, .int tk, .int pl, .int va, .int fa, .int (nI c), .int (nI m), .int ss, .int wg, .ref 422, .ref 423, .ref 424, .ref 425, .ref 426, .ref 427, .ref 428, .ref 429, .ref 430, .ref 431, .ref 432, .ref 433]) → h 422 = .inl (0, 240, .inl G) → h 426 = .inl (1, 480, .inr (.inl (bkR Y (80 + n) (mkV false true 2 bt Y i j) (k)))) → EV xs L (d + 2) 0 0 M_X12_makes 434 h 284 [some (.ref 420), some (.int (nI s)), some (.int (nI i)), some (.int (nI j)), some (.int bt), some (.int le), some (.int no), some (.int (nI n)), some (.int 0), some (.int 1), some (.int 2), some (.int (nI k)), u12, none, u14, none, u16, u17, none, u19, none, u21] [] Q := by
  intro nn
  induction nn with
  | zero => intro k h u12 u14 u16 u17 u19 u21 hk hS hF h5 h22 h26; exact z_mp012_z hS hn hi hj kx hF h5 h22 h26 (by omega)
  | succ nn ih => intro k h u12 u14 u16 u17 u19 u21 hk hS hF h5 h22 h26; exact z_mp012_s hS hn hi hj kx hF h5 h22 h26 (by omega) (fun h' u12 u14 u16 u17 u19 u21 q0 q1 q2 q3 q4 => ih (k + 1) h' u12 u14 u16 u17 u19 u21 (by omega) q0 q1 q2 q3 q4)
set_option maxRecDepth 20000 in
set_option maxHeartbeats 1000000 in
theorem z_mp000_z {xs : Nat → Int32} {L d : Nat} {h : ev_H} {h0 : ev_H} {th : Int32} {tr : Int64} {ty nx tk pl va fa ss wg : Int32} {c m : Nat} {s i j n : Nat} {bt le no : Int32} {G : Nat → Int32} {Y : Nat → Int64} {Q : ev_Q} {k : Nat} {u12 : Option Value} {u14 : Option Value} {u16 : Option Value} {u17 : Option Value} {u19 : Option Value} {u21 : Option Value} (hS : SH h) (hn : n < 40) (hi : i < n) (hj : j < n) (kx : ∀ (h' : ev_H) (u12 : Option Value) (u14 : Option Value) (u16 : Option Value) (u17 : Option Value) (u19 : Option Value) (u21 : Option Value), SH h' → KM [426] h0 h' → h' 420 = .inr (12, [.int th, .long tr, .ref 421, .int ty, .int nx, .int tk, .int pl, .int va, .int fa, .int (nI c), .int (nI m), .int ss, .int wg, .ref 422, .ref 423, .ref 424, .ref 425, .ref 426, .ref 427, .ref 428, .ref 429, .ref 430, .ref 431, .ref 432, .ref 433]) → h' 422 = .inl (0, 240, .inl G) → h' 426 = .inl (1, 480, .inr (.inl (bkR Y (n) (mkV false false 0 bt Y i j) (4)))) → EV xs L (d + 2) 0 0 M_X12_makes 434 h' 484 [some (.ref 420), some (.int (nI s)), some (.int (nI i)), some (.int (nI j)), some (.int bt), some (.int le), some (.int no), some (.int (nI n)), some (.int 0), some (.int 0), some (.int 0), some (.int (nI 4)), u12, none, u14, none, u16, u17, none, u19, none, u21] [] Q) (hF : KM [426] h0 h) (h5 : h 420 = .inr (12, [.int th, .long tr, .ref 421, .int ty, .int nx, .int tk, .int pl, .int va, .int fa, .int (nI c), .int (nI m), .int ss, .int wg, .ref 422, .ref 423, .ref 424, .ref 425, .ref 426, .ref 427, .ref 428, .ref 429, .ref 430, .ref 431, .ref 432, .ref 433])) (h22 : h 422 = .inl (0, 240, .inl G)) (h26 : h 426 = .inl (1, 480, .inr (.inl (bkR Y (n) (mkV false false 0 bt Y i j) (k))))) (hk : k = 4) : EV xs L (d + 2) 0 0 M_X12_makes 434 h 284 [some (.ref 420), some (.int (nI s)), some (.int (nI i)), some (.int (nI j)), some (.int bt), some (.int le), some (.int no), some (.int (nI n)), some (.int 0), some (.int 0), some (.int 0), some (.int (nI k)), u12, none, u14, none, u16, u17, none, u19, none, u21] [] Q := by
  refine r_iload rfl dX12_makes_284 rfl ?_
  refine r_iconst (v := 4) rfl dX12_makes_286 (by decide) ?_
  refine r_icmp_ge (tgt := 484) rfl rfl dX12_makes_287 (fun _ => ?_) (fun zc => absurd (show nI (4) ≤ nI k from nI_le (a := 4) (b := k) (by omega) (by omega)) zc)
  subst hk
  exact kx h _ _ _ _ _ _ hS hF h5 h22 h26
set_option maxRecDepth 20000 in
set_option maxHeartbeats 1000000 in
theorem z_mp000_s {xs : Nat → Int32} {L d : Nat} {h : ev_H} {h0 : ev_H} {th : Int32} {tr : Int64} {ty nx tk pl va fa ss wg : Int32} {c m : Nat} {s i j n : Nat} {bt le no : Int32} {G : Nat → Int32} {Y : Nat → Int64} {Q : ev_Q} {k : Nat} {u12 : Option Value} {u14 : Option Value} {u16 : Option Value} {u17 : Option Value} {u19 : Option Value} {u21 : Option Value} (hS : SH h) (hn : n < 40) (hi : i < n) (hj : j < n) (kx : ∀ (h' : ev_H) (u12 : Option Value) (u14 : Option Value) (u16 : Option Value) (u17 : Option Value) (u19 : Option Value) (u21 : Option Value), SH h' → KM [426] h0 h' → h' 420 = .inr (12, [.int th, .long tr, .ref 421, .int ty, .int nx, .int tk, .int pl, .int va, .int fa, .int (nI c), .int (nI m), .int ss, .int wg, .ref 422, .ref 423, .ref 424, .ref 425, .ref 426, .ref 427, .ref 428, .ref 429, .ref 430, .ref 431, .ref 432, .ref 433]) → h' 422 = .inl (0, 240, .inl G) → h' 426 = .inl (1, 480, .inr (.inl (bkR Y (n) (mkV false false 0 bt Y i j) (4)))) → EV xs L (d + 2) 0 0 M_X12_makes 434 h' 484 [some (.ref 420), some (.int (nI s)), some (.int (nI i)), some (.int (nI j)), some (.int bt), some (.int le), some (.int no), some (.int (nI n)), some (.int 0), some (.int 0), some (.int 0), some (.int (nI 4)), u12, none, u14, none, u16, u17, none, u19, none, u21] [] Q) (hF : KM [426] h0 h) (h5 : h 420 = .inr (12, [.int th, .long tr, .ref 421, .int ty, .int nx, .int tk, .int pl, .int va, .int fa, .int (nI c), .int (nI m), .int ss, .int wg, .ref 422, .ref 423, .ref 424, .ref 425, .ref 426, .ref 427, .ref 428, .ref 429, .ref 430, .ref 431, .ref 432, .ref 433])) (h22 : h 422 = .inl (0, 240, .inl G)) (h26 : h 426 = .inl (1, 480, .inr (.inl (bkR Y (n) (mkV false false 0 bt Y i j) (k))))) (hk : k < 4) (ih : ∀ (h' : ev_H) (u12' : Option Value) (u14' : Option Value) (u16' : Option Value) (u17' : Option Value) (u19' : Option Value) (u21' : Option Value), SH h' → KM [426] h0 h' → h' 420 = .inr (12, [.int th, .long tr, .ref 421, .int ty, .int nx, .int tk, .int pl, .int va, .int fa, .int (nI c), .int (nI m), .int ss, .int wg, .ref 422, .ref 423, .ref 424, .ref 425, .ref 426, .ref 427, .ref 428, .ref 429, .ref 430, .ref 431, .ref 432, .ref 433]) → h' 422 = .inl (0, 240, .inl G) → h' 426 = .inl (1, 480, .inr (.inl (bkR Y (n) (mkV false false 0 bt Y i j) (k + 1)))) → EV xs L (d + 2) 0 0 M_X12_makes 434 h' 284 [some (.ref 420), some (.int (nI s)), some (.int (nI i)), some (.int (nI j)), some (.int bt), some (.int le), some (.int no), some (.int (nI n)), some (.int 0), some (.int 0), some (.int 0), some (.int (nI (k + 1))), u12', none, u14', none, u16', u17', none, u19', none, u21'] [] Q) : EV xs L (d + 2) 0 0 M_X12_makes 434 h 284 [some (.ref 420), some (.int (nI s)), some (.int (nI i)), some (.int (nI j)), some (.int bt), some (.int le), some (.int no), some (.int (nI n)), some (.int 0), some (.int 0), some (.int 0), some (.int (nI k)), u12, none, u14, none, u16, u17, none, u19, none, u21] [] Q := by
  refine r_iload rfl dX12_makes_284 rfl ?_
  refine r_iconst (v := 4) rfl dX12_makes_286 (by decide) ?_
  refine r_icmp_ge (tgt := 484) rfl rfl dX12_makes_287 (fun zc => absurd zc (show ¬ nI (4) ≤ nI k from nI_ge (a := k) (b := 4) (by omega) (by omega))) (fun _ => ?_)
  refine r_aload_n rfl dX12_makes_290 rfl ?_
  refine r_getv 17 rfl dX12_makes_291 (show 2 ≤ 420 ∧ 420 < 434 by decide) h5 fl_X12_30 rfl ?_
  refine r_sipush (v := 160) rfl dX12_makes_294 (by decide) ?_
  refine r_iload rfl dX12_makes_297 rfl ?_
  refine r_imul rfl dX12_makes_299 ?_
  refine r_eqi (y := 0) (by decide) ?_
  refine r_iconst (v := 4) rfl dX12_makes_300 (by decide) ?_
  refine r_iload_n rfl dX12_makes_301 rfl ?_
  refine r_imul rfl dX12_makes_302 ?_
  refine r_eqi (y := nI (4 * i)) (show 4 * (nI i) = nI (4 * i) from pk_mul 4 i) ?_
  refine r_iadd rfl dX12_makes_303 ?_
  refine r_eqi (y := nI (0 + (4 * i))) (show 0 + (nI (4 * i)) = nI (0 + (4 * i)) from nI_add 0 (4 * i)) ?_
  refine r_iload rfl dX12_makes_304 rfl ?_
  refine r_iadd rfl dX12_makes_306 ?_
  refine r_eqi (y := nI ((0 + (4 * i)) + k)) (show (nI (0 + (4 * i))) + (nI k) = nI ((0 + (4 * i)) + k) from nI_add (0 + (4 * i)) k) ?_
  refine r_laldv (jn := (0 + (4 * i)) + k) (v := Y ((0 + (4 * i)) + k)) rfl dX12_makes_307 (show 2 ≤ 426 ∧ 426 < 434 by decide) h26 (vp_in_nI (n := (0 + (4 * i)) + k) (by omega) (by decide)) (nI_clamp (n := (0 + (4 * i)) + k) (by omega)) (bkR_n (by omega)) ?_
  refine r_topl (fun x51 e52 => ?_)
  refine r_lstore (ls' := [some (.ref 420), some (.int (nI s)), some (.int (nI i)), some (.int (nI j)), some (.int bt), some (.int le), some (.int no), some (.int (nI n)), some (.int 0), some (.int 0), some (.int 0), some (.int (nI k)), some (.long x51), none, u14, none, u16, u17, none, u19, none, u21]) rfl dX12_makes_308 (Nat.le_of_ble_eq_true rfl) rfl ?_
  refine r_aload_n rfl dX12_makes_310 rfl ?_
  refine r_getv 17 rfl dX12_makes_311 (show 2 ≤ 420 ∧ 420 < 434 by decide) h5 fl_X12_30 rfl ?_
  refine r_sipush (v := 160) rfl dX12_makes_314 (by decide) ?_
  refine r_iload rfl dX12_makes_317 rfl ?_
  refine r_imul rfl dX12_makes_319 ?_
  refine r_eqi (y := 0) (by decide) ?_
  refine r_iconst (v := 4) rfl dX12_makes_320 (by decide) ?_
  refine r_iload_n rfl dX12_makes_321 rfl ?_
  refine r_imul rfl dX12_makes_322 ?_
  refine r_eqi (y := nI (4 * j)) (show 4 * (nI j) = nI (4 * j) from pk_mul 4 j) ?_
  refine r_iadd rfl dX12_makes_323 ?_
  refine r_eqi (y := nI (0 + (4 * j))) (show 0 + (nI (4 * j)) = nI (0 + (4 * j)) from nI_add 0 (4 * j)) ?_
  refine r_iload rfl dX12_makes_324 rfl ?_
  refine r_iadd rfl dX12_makes_326 ?_
  refine r_eqi (y := nI ((0 + (4 * j)) + k)) (show (nI (0 + (4 * j))) + (nI k) = nI ((0 + (4 * j)) + k) from nI_add (0 + (4 * j)) k) ?_
  refine r_laldv (jn := (0 + (4 * j)) + k) (v := Y ((0 + (4 * j)) + k)) rfl dX12_makes_327 (show 2 ≤ 426 ∧ 426 < 434 by decide) h26 (vp_in_nI (n := (0 + (4 * j)) + k) (by omega) (by decide)) (nI_clamp (n := (0 + (4 * j)) + k) (by omega)) (bkR_n (by omega)) ?_
  refine r_topl (fun x53 e54 => ?_)
  refine r_lstore (ls' := [some (.ref 420), some (.int (nI s)), some (.int (nI i)), some (.int (nI j)), some (.int bt), some (.int le), some (.int no), some (.int (nI n)), some (.int 0), some (.int 0), some (.int 0), some (.int (nI k)), some (.long x51), none, some (.long x53), none, u16, u17, none, u19, none, u21]) rfl dX12_makes_328 (Nat.le_of_ble_eq_true rfl) rfl ?_
  refine r_iload rfl dX12_makes_330 rfl ?_
  refine r_iconst (v := 1) rfl dX12_makes_332 (by decide) ?_
  refine r_icmp_ne (tgt := 341) rfl rfl dX12_makes_333 (fun _ => ?_) (fun zc => absurd zc (by decide))
  refine r_iload rfl dX12_makes_341 rfl ?_
  refine r_if_eq (tgt := 355) rfl rfl dX12_makes_343 (fun _ => ?_) (fun zc => absurd zc (by decide))
  refine r_iconst (v := 0) rfl dX12_makes_355 (by decide) ?_
  refine r_istore (ls' := [some (.ref 420), some (.int (nI s)), some (.int (nI i)), some (.int (nI j)), some (.int bt), some (.int le), some (.int no), some (.int (nI n)), some (.int 0), some (.int 0), some (.int 0), some (.int (nI k)), some (.long x51), none, some (.long x53), none, some (.int 0), u17, none, u19, none, u21]) rfl dX12_makes_356 (Nat.le_of_ble_eq_true rfl) rfl ?_
  refine r_iload rfl dX12_makes_358 rfl ?_
  refine r_if_eq (tgt := 371) rfl rfl dX12_makes_360 (fun _ => ?_) (fun zc => absurd zc (by decide))
  refine r_lload rfl dX12_makes_371 rfl ?_
  refine r_lload rfl dX12_makes_373 rfl ?_
  refine r_land rfl dX12_makes_375 ?_
  refine r_topl (fun x55 e56 => ?_)
  refine r_lstore (ls' := [some (.ref 420), some (.int (nI s)), some (.int (nI i)), some (.int (nI j)), some (.int bt), some (.int le), some (.int no), some (.int (nI n)), some (.int 0), some (.int 0), some (.int 0), some (.int (nI k)), some (.long x51), none, some (.long x53), none, some (.int 0), some (.long x55), none, u19, none, u21]) rfl dX12_makes_376 (Nat.le_of_ble_eq_true rfl) rfl ?_
  refine r_iload rfl dX12_makes_378 rfl ?_
  refine r_iconst (v := 2) rfl dX12_makes_380 (by decide) ?_
  refine r_icmp_ne (tgt := 457) rfl rfl dX12_makes_381 (fun _ => ?_) (fun zc => absurd zc (by decide))
  refine r_aload_n rfl dX12_makes_457 rfl ?_
  refine r_getv 17 rfl dX12_makes_458 (show 2 ≤ 420 ∧ 420 < 434 by decide) h5 fl_X12_30 rfl ?_
  refine r_sipush (v := 160) rfl dX12_makes_461 (by decide) ?_
  refine r_iload rfl dX12_makes_464 rfl ?_
  refine r_imul rfl dX12_makes_466 ?_
  refine r_eqi (y := 0) (by decide) ?_
  refine r_iconst (v := 4) rfl dX12_makes_467 (by decide) ?_
  refine r_iload rfl dX12_makes_468 rfl ?_
  refine r_imul rfl dX12_makes_470 ?_
  refine r_eqi (y := nI (4 * n)) (show 4 * (nI n) = nI (4 * n) from pk_mul 4 n) ?_
  refine r_iadd rfl dX12_makes_471 ?_
  refine r_eqi (y := nI (0 + (4 * n))) (show 0 + (nI (4 * n)) = nI (0 + (4 * n)) from nI_add 0 (4 * n)) ?_
  refine r_iload rfl dX12_makes_472 rfl ?_
  refine r_iadd rfl dX12_makes_474 ?_
  refine r_eqi (y := nI ((0 + (4 * n)) + k)) (show (nI (0 + (4 * n))) + (nI k) = nI ((0 + (4 * n)) + k) from nI_add (0 + (4 * n)) k) ?_
  refine r_lload rfl dX12_makes_475 rfl ?_
  refine e_last (jn := (0 + (4 * n)) + k) rfl dX12_makes_477 (show 2 ≤ 426 ∧ 426 < 434 by decide) hS hF (by decide) h26 (vp_in_nI (n := (0 + (4 * n)) + k) (by omega) (by decide)) (nI_clamp (n := (0 + (4 * n)) + k) (by omega)) (fun h57 hS58 hF59 hN60 f61 => ?_)
  have f62 : h57 420 = .inr (12, [.int th, .long tr, .ref 421, .int ty, .int nx, .int tk, .int pl, .int va, .int fa, .int (nI c), .int (nI m), .int ss, .int wg, .ref 422, .ref 423, .ref 424, .ref 425, .ref 426, .ref 427, .ref 428, .ref 429, .ref 430, .ref 431, .ref 432, .ref 433]) := (hN60 420 (by decide)).trans h5
  have f63 : h57 422 = .inl (0, 240, .inl G) := (hN60 422 (by decide)).trans h22
  refine r_iinc (y := nI (k + 1)) (ls' := [some (.ref 420), some (.int (nI s)), some (.int (nI i)), some (.int (nI j)), some (.int bt), some (.int le), some (.int no), some (.int (nI n)), some (.int 0), some (.int 0), some (.int 0), some (.int (nI (k + 1))), some (.long x51), none, some (.long x53), none, some (.int 0), some (.long x55), none, u19, none, u21]) rfl dX12_makes_478 rfl (nI_1 k) (Nat.le_of_ble_eq_true rfl) rfl ?_
  refine r_goto (pc' := 284) rfl dX12_makes_481 ?_
  subst e56
  subst e54
  subst e52
  exact ih h57 _ _ _ _ _ _ hS58 hF59 f62 f63 (by rw [← bkR_s, show 4 * (n) + k = (0 + (4 * n)) + k by omega]; exact f61)
theorem z_mp000 {xs : Nat → Int32} {L d : Nat} {h0 : ev_H} {th : Int32} {tr : Int64} {ty nx tk pl va fa ss wg : Int32} {c m : Nat} {s i j n : Nat} {bt le no : Int32} {G : Nat → Int32} {Y : Nat → Int64} {Q : ev_Q} (hn : n < 40) (hi : i < n) (hj : j < n) (kx : ∀ (h' : ev_H) (u12 : Option Value) (u14 : Option Value) (u16 : Option Value) (u17 : Option Value) (u19 : Option Value) (u21 : Option Value), SH h' → KM [426] h0 h' → h' 420 = .inr (12, [.int th, .long tr, .ref 421, .int ty, .int nx, .int tk, .int pl, .int va, .int fa, .int (nI c), .int (nI m), .int ss, .int wg, .ref 422, .ref 423, .ref 424, .ref 425, .ref 426, .ref 427, .ref 428, .ref 429, .ref 430, .ref 431, .ref 432, .ref 433]) → h' 422 = .inl (0, 240, .inl G) → h' 426 = .inl (1, 480, .inr (.inl (bkR Y (n) (mkV false false 0 bt Y i j) (4)))) → EV xs L (d + 2) 0 0 M_X12_makes 434 h' 484 [some (.ref 420), some (.int (nI s)), some (.int (nI i)), some (.int (nI j)), some (.int bt), some (.int le), some (.int no), some (.int (nI n)), some (.int 0), some (.int 0), some (.int 0), some (.int (nI 4)), u12, none, u14, none, u16, u17, none, u19, none, u21] [] Q) : ∀ (nn k : Nat) (h : ev_H) (u12 : Option Value) (u14 : Option Value) (u16 : Option Value) (u17 : Option Value) (u19 : Option Value) (u21 : Option Value), k + nn = 4 → SH h → KM [426] h0 h → h 420 = .inr (12, [.int th, .long tr, .ref 421, .int ty, .int nx, .int tk, .int pl, .int va, .int fa, .int (nI c), .int (nI m), .int ss, .int wg, .ref 422, .ref 423, .ref 424, .ref 425, .ref 426, .ref 427, .ref 428, .ref 429, .ref 430, .ref 431, .ref 432, .ref 433]) → h 422 = .inl (0, 240, .inl G) → h 426 = .inl (1, 480, .inr (.inl (bkR Y (n) (mkV false false 0 bt Y i j) (k)))) → EV xs L (d + 2) 0 0 M_X12_makes 434 h 284 [some (.ref 420), some (.int (nI s)), some (.int (nI i)), some (.int (nI j)), some (.int bt), some (.int le), some (.int no), some (.int (nI n)), some (.int 0), some (.int 0), some (.int 0), some (.int (nI k)), u12, none, u14, none, u16, u17, none, u19, none, u21] [] Q := by
  intro nn
  induction nn with
  | zero => intro k h u12 u14 u16 u17 u19 u21 hk hS hF h5 h22 h26; exact z_mp000_z hS hn hi hj kx hF h5 h22 h26 (by omega)
  | succ nn ih => intro k h u12 u14 u16 u17 u19 u21 hk hS hF h5 h22 h26; exact z_mp000_s hS hn hi hj kx hF h5 h22 h26 (by omega) (fun h' u12 u14 u16 u17 u19 u21 q0 q1 q2 q3 q4 => ih (k + 1) h' u12 u14 u16 u17 u19 u21 (by omega) q0 q1 q2 q3 q4)
set_option maxRecDepth 20000 in
set_option maxHeartbeats 1000000 in
theorem z_mp001_z {xs : Nat → Int32} {L d : Nat} {h : ev_H} {h0 : ev_H} {th : Int32} {tr : Int64} {ty nx tk pl va fa ss wg : Int32} {c m : Nat} {s i j n : Nat} {bt le no : Int32} {G : Nat → Int32} {Y : Nat → Int64} {Q : ev_Q} {k : Nat} {u12 : Option Value} {u14 : Option Value} {u16 : Option Value} {u17 : Option Value} {u19 : Option Value} {u21 : Option Value} (hS : SH h) (hn : n < 40) (hi : i < n) (hj : j < n) (kx : ∀ (h' : ev_H) (u12 : Option Value) (u14 : Option Value) (u16 : Option Value) (u17 : Option Value) (u19 : Option Value) (u21 : Option Value), SH h' → KM [426] h0 h' → h' 420 = .inr (12, [.int th, .long tr, .ref 421, .int ty, .int nx, .int tk, .int pl, .int va, .int fa, .int (nI c), .int (nI m), .int ss, .int wg, .ref 422, .ref 423, .ref 424, .ref 425, .ref 426, .ref 427, .ref 428, .ref 429, .ref 430, .ref 431, .ref 432, .ref 433]) → h' 422 = .inl (0, 240, .inl G) → h' 426 = .inl (1, 480, .inr (.inl (bkR Y (40 + n) (mkV false false 1 bt Y i j) (4)))) → EV xs L (d + 2) 0 0 M_X12_makes 434 h' 484 [some (.ref 420), some (.int (nI s)), some (.int (nI i)), some (.int (nI j)), some (.int bt), some (.int le), some (.int no), some (.int (nI n)), some (.int 0), some (.int 0), some (.int 1), some (.int (nI 4)), u12, none, u14, none, u16, u17, none, u19, none, u21] [] Q) (hF : KM [426] h0 h) (h5 : h 420 = .inr (12, [.int th, .long tr, .ref 421, .int ty, .int nx, .int tk, .int pl, .int va, .int fa, .int (nI c), .int (nI m), .int ss, .int wg, .ref 422, .ref 423, .ref 424, .ref 425, .ref 426, .ref 427, .ref 428, .ref 429, .ref 430, .ref 431, .ref 432, .ref 433])) (h22 : h 422 = .inl (0, 240, .inl G)) (h26 : h 426 = .inl (1, 480, .inr (.inl (bkR Y (40 + n) (mkV false false 1 bt Y i j) (k))))) (hk : k = 4) : EV xs L (d + 2) 0 0 M_X12_makes 434 h 284 [some (.ref 420), some (.int (nI s)), some (.int (nI i)), some (.int (nI j)), some (.int bt), some (.int le), some (.int no), some (.int (nI n)), some (.int 0), some (.int 0), some (.int 1), some (.int (nI k)), u12, none, u14, none, u16, u17, none, u19, none, u21] [] Q := by
  refine r_iload rfl dX12_makes_284 rfl ?_
  refine r_iconst (v := 4) rfl dX12_makes_286 (by decide) ?_
  refine r_icmp_ge (tgt := 484) rfl rfl dX12_makes_287 (fun _ => ?_) (fun zc => absurd (show nI (4) ≤ nI k from nI_le (a := 4) (b := k) (by omega) (by omega)) zc)
  subst hk
  exact kx h _ _ _ _ _ _ hS hF h5 h22 h26
set_option maxRecDepth 20000 in
set_option maxHeartbeats 1000000 in
theorem z_mp001_s {xs : Nat → Int32} {L d : Nat} {h : ev_H} {h0 : ev_H} {th : Int32} {tr : Int64} {ty nx tk pl va fa ss wg : Int32} {c m : Nat} {s i j n : Nat} {bt le no : Int32} {G : Nat → Int32} {Y : Nat → Int64} {Q : ev_Q} {k : Nat} {u12 : Option Value} {u14 : Option Value} {u16 : Option Value} {u17 : Option Value} {u19 : Option Value} {u21 : Option Value} (hS : SH h) (hn : n < 40) (hi : i < n) (hj : j < n) (kx : ∀ (h' : ev_H) (u12 : Option Value) (u14 : Option Value) (u16 : Option Value) (u17 : Option Value) (u19 : Option Value) (u21 : Option Value), SH h' → KM [426] h0 h' → h' 420 = .inr (12, [.int th, .long tr, .ref 421, .int ty, .int nx, .int tk, .int pl, .int va, .int fa, .int (nI c), .int (nI m), .int ss, .int wg, .ref 422, .ref 423, .ref 424, .ref 425, .ref 426, .ref 427, .ref 428, .ref 429, .ref 430, .ref 431, .ref 432, .ref 433]) → h' 422 = .inl (0, 240, .inl G) → h' 426 = .inl (1, 480, .inr (.inl (bkR Y (40 + n) (mkV false false 1 bt Y i j) (4)))) → EV xs L (d + 2) 0 0 M_X12_makes 434 h' 484 [some (.ref 420), some (.int (nI s)), some (.int (nI i)), some (.int (nI j)), some (.int bt), some (.int le), some (.int no), some (.int (nI n)), some (.int 0), some (.int 0), some (.int 1), some (.int (nI 4)), u12, none, u14, none, u16, u17, none, u19, none, u21] [] Q) (hF : KM [426] h0 h) (h5 : h 420 = .inr (12, [.int th, .long tr, .ref 421, .int ty, .int nx, .int tk, .int pl, .int va, .int fa, .int (nI c), .int (nI m), .int ss, .int wg, .ref 422, .ref 423, .ref 424, .ref 425, .ref 426, .ref 427, .ref 428, .ref 429, .ref 430, .ref 431, .ref 432, .ref 433])) (h22 : h 422 = .inl (0, 240, .inl G)) (h26 : h 426 = .inl (1, 480, .inr (.inl (bkR Y (40 + n) (mkV false false 1 bt Y i j) (k))))) (hk : k < 4) (ih : ∀ (h' : ev_H) (u12' : Option Value) (u14' : Option Value) (u16' : Option Value) (u17' : Option Value) (u19' : Option Value) (u21' : Option Value), SH h' → KM [426] h0 h' → h' 420 = .inr (12, [.int th, .long tr, .ref 421, .int ty, .int nx, .int tk, .int pl, .int va, .int fa, .int (nI c), .int (nI m), .int ss, .int wg, .ref 422, .ref 423, .ref 424, .ref 425, .ref 426, .ref 427, .ref 428, .ref 429, .ref 430, .ref 431, .ref 432, .ref 433]) → h' 422 = .inl (0, 240, .inl G) → h' 426 = .inl (1, 480, .inr (.inl (bkR Y (40 + n) (mkV false false 1 bt Y i j) (k + 1)))) → EV xs L (d + 2) 0 0 M_X12_makes 434 h' 284 [some (.ref 420), some (.int (nI s)), some (.int (nI i)), some (.int (nI j)), some (.int bt), some (.int le), some (.int no), some (.int (nI n)), some (.int 0), some (.int 0), some (.int 1), some (.int (nI (k + 1))), u12', none, u14', none, u16', u17', none, u19', none, u21'] [] Q) : EV xs L (d + 2) 0 0 M_X12_makes 434 h 284 [some (.ref 420), some (.int (nI s)), some (.int (nI i)), some (.int (nI j)), some (.int bt), some (.int le), some (.int no), some (.int (nI n)), some (.int 0), some (.int 0), some (.int 1), some (.int (nI k)), u12, none, u14, none, u16, u17, none, u19, none, u21] [] Q := by
  refine r_iload rfl dX12_makes_284 rfl ?_
  refine r_iconst (v := 4) rfl dX12_makes_286 (by decide) ?_
  refine r_icmp_ge (tgt := 484) rfl rfl dX12_makes_287 (fun zc => absurd zc (show ¬ nI (4) ≤ nI k from nI_ge (a := k) (b := 4) (by omega) (by omega))) (fun _ => ?_)
  refine r_aload_n rfl dX12_makes_290 rfl ?_
  refine r_getv 17 rfl dX12_makes_291 (show 2 ≤ 420 ∧ 420 < 434 by decide) h5 fl_X12_30 rfl ?_
  refine r_sipush (v := 160) rfl dX12_makes_294 (by decide) ?_
  refine r_iload rfl dX12_makes_297 rfl ?_
  refine r_imul rfl dX12_makes_299 ?_
  refine r_eqi (y := 160) (by decide) ?_
  refine r_iconst (v := 4) rfl dX12_makes_300 (by decide) ?_
  refine r_iload_n rfl dX12_makes_301 rfl ?_
  refine r_imul rfl dX12_makes_302 ?_
  refine r_eqi (y := nI (4 * i)) (show 4 * (nI i) = nI (4 * i) from pk_mul 4 i) ?_
  refine r_iadd rfl dX12_makes_303 ?_
  refine r_eqi (y := nI (160 + (4 * i))) (show 160 + (nI (4 * i)) = nI (160 + (4 * i)) from nI_add 160 (4 * i)) ?_
  refine r_iload rfl dX12_makes_304 rfl ?_
  refine r_iadd rfl dX12_makes_306 ?_
  refine r_eqi (y := nI ((160 + (4 * i)) + k)) (show (nI (160 + (4 * i))) + (nI k) = nI ((160 + (4 * i)) + k) from nI_add (160 + (4 * i)) k) ?_
  refine r_laldv (jn := (160 + (4 * i)) + k) (v := Y ((160 + (4 * i)) + k)) rfl dX12_makes_307 (show 2 ≤ 426 ∧ 426 < 434 by decide) h26 (vp_in_nI (n := (160 + (4 * i)) + k) (by omega) (by decide)) (nI_clamp (n := (160 + (4 * i)) + k) (by omega)) (bkR_n (by omega)) ?_
  refine r_topl (fun x51 e52 => ?_)
  refine r_lstore (ls' := [some (.ref 420), some (.int (nI s)), some (.int (nI i)), some (.int (nI j)), some (.int bt), some (.int le), some (.int no), some (.int (nI n)), some (.int 0), some (.int 0), some (.int 1), some (.int (nI k)), some (.long x51), none, u14, none, u16, u17, none, u19, none, u21]) rfl dX12_makes_308 (Nat.le_of_ble_eq_true rfl) rfl ?_
  refine r_aload_n rfl dX12_makes_310 rfl ?_
  refine r_getv 17 rfl dX12_makes_311 (show 2 ≤ 420 ∧ 420 < 434 by decide) h5 fl_X12_30 rfl ?_
  refine r_sipush (v := 160) rfl dX12_makes_314 (by decide) ?_
  refine r_iload rfl dX12_makes_317 rfl ?_
  refine r_imul rfl dX12_makes_319 ?_
  refine r_eqi (y := 160) (by decide) ?_
  refine r_iconst (v := 4) rfl dX12_makes_320 (by decide) ?_
  refine r_iload_n rfl dX12_makes_321 rfl ?_
  refine r_imul rfl dX12_makes_322 ?_
  refine r_eqi (y := nI (4 * j)) (show 4 * (nI j) = nI (4 * j) from pk_mul 4 j) ?_
  refine r_iadd rfl dX12_makes_323 ?_
  refine r_eqi (y := nI (160 + (4 * j))) (show 160 + (nI (4 * j)) = nI (160 + (4 * j)) from nI_add 160 (4 * j)) ?_
  refine r_iload rfl dX12_makes_324 rfl ?_
  refine r_iadd rfl dX12_makes_326 ?_
  refine r_eqi (y := nI ((160 + (4 * j)) + k)) (show (nI (160 + (4 * j))) + (nI k) = nI ((160 + (4 * j)) + k) from nI_add (160 + (4 * j)) k) ?_
  refine r_laldv (jn := (160 + (4 * j)) + k) (v := Y ((160 + (4 * j)) + k)) rfl dX12_makes_327 (show 2 ≤ 426 ∧ 426 < 434 by decide) h26 (vp_in_nI (n := (160 + (4 * j)) + k) (by omega) (by decide)) (nI_clamp (n := (160 + (4 * j)) + k) (by omega)) (bkR_n (by omega)) ?_
  refine r_topl (fun x53 e54 => ?_)
  refine r_lstore (ls' := [some (.ref 420), some (.int (nI s)), some (.int (nI i)), some (.int (nI j)), some (.int bt), some (.int le), some (.int no), some (.int (nI n)), some (.int 0), some (.int 0), some (.int 1), some (.int (nI k)), some (.long x51), none, some (.long x53), none, u16, u17, none, u19, none, u21]) rfl dX12_makes_328 (Nat.le_of_ble_eq_true rfl) rfl ?_
  refine r_iload rfl dX12_makes_330 rfl ?_
  refine r_iconst (v := 1) rfl dX12_makes_332 (by decide) ?_
  refine r_icmp_ne (tgt := 341) rfl rfl dX12_makes_333 (fun zc => absurd zc (by decide)) (fun _ => ?_)
  refine r_iload rfl dX12_makes_336 rfl ?_
  refine r_goto (pc' := 356) rfl dX12_makes_338 ?_
  refine r_istore (ls' := [some (.ref 420), some (.int (nI s)), some (.int (nI i)), some (.int (nI j)), some (.int bt), some (.int le), some (.int no), some (.int (nI n)), some (.int 0), some (.int 0), some (.int 1), some (.int (nI k)), some (.long x51), none, some (.long x53), none, some (.int 0), u17, none, u19, none, u21]) rfl dX12_makes_356 (Nat.le_of_ble_eq_true rfl) rfl ?_
  refine r_iload rfl dX12_makes_358 rfl ?_
  refine r_if_eq (tgt := 371) rfl rfl dX12_makes_360 (fun _ => ?_) (fun zc => absurd zc (by decide))
  refine r_lload rfl dX12_makes_371 rfl ?_
  refine r_lload rfl dX12_makes_373 rfl ?_
  refine r_land rfl dX12_makes_375 ?_
  refine r_topl (fun x55 e56 => ?_)
  refine r_lstore (ls' := [some (.ref 420), some (.int (nI s)), some (.int (nI i)), some (.int (nI j)), some (.int bt), some (.int le), some (.int no), some (.int (nI n)), some (.int 0), some (.int 0), some (.int 1), some (.int (nI k)), some (.long x51), none, some (.long x53), none, some (.int 0), some (.long x55), none, u19, none, u21]) rfl dX12_makes_376 (Nat.le_of_ble_eq_true rfl) rfl ?_
  refine r_iload rfl dX12_makes_378 rfl ?_
  refine r_iconst (v := 2) rfl dX12_makes_380 (by decide) ?_
  refine r_icmp_ne (tgt := 457) rfl rfl dX12_makes_381 (fun _ => ?_) (fun zc => absurd zc (by decide))
  refine r_aload_n rfl dX12_makes_457 rfl ?_
  refine r_getv 17 rfl dX12_makes_458 (show 2 ≤ 420 ∧ 420 < 434 by decide) h5 fl_X12_30 rfl ?_
  refine r_sipush (v := 160) rfl dX12_makes_461 (by decide) ?_
  refine r_iload rfl dX12_makes_464 rfl ?_
  refine r_imul rfl dX12_makes_466 ?_
  refine r_eqi (y := 160) (by decide) ?_
  refine r_iconst (v := 4) rfl dX12_makes_467 (by decide) ?_
  refine r_iload rfl dX12_makes_468 rfl ?_
  refine r_imul rfl dX12_makes_470 ?_
  refine r_eqi (y := nI (4 * n)) (show 4 * (nI n) = nI (4 * n) from pk_mul 4 n) ?_
  refine r_iadd rfl dX12_makes_471 ?_
  refine r_eqi (y := nI (160 + (4 * n))) (show 160 + (nI (4 * n)) = nI (160 + (4 * n)) from nI_add 160 (4 * n)) ?_
  refine r_iload rfl dX12_makes_472 rfl ?_
  refine r_iadd rfl dX12_makes_474 ?_
  refine r_eqi (y := nI ((160 + (4 * n)) + k)) (show (nI (160 + (4 * n))) + (nI k) = nI ((160 + (4 * n)) + k) from nI_add (160 + (4 * n)) k) ?_
  refine r_lload rfl dX12_makes_475 rfl ?_
  refine e_last (jn := (160 + (4 * n)) + k) rfl dX12_makes_477 (show 2 ≤ 426 ∧ 426 < 434 by decide) hS hF (by decide) h26 (vp_in_nI (n := (160 + (4 * n)) + k) (by omega) (by decide)) (nI_clamp (n := (160 + (4 * n)) + k) (by omega)) (fun h57 hS58 hF59 hN60 f61 => ?_)
  have f62 : h57 420 = .inr (12, [.int th, .long tr, .ref 421, .int ty, .int nx, .int tk, .int pl, .int va, .int fa, .int (nI c), .int (nI m), .int ss, .int wg, .ref 422, .ref 423, .ref 424, .ref 425, .ref 426, .ref 427, .ref 428, .ref 429, .ref 430, .ref 431, .ref 432, .ref 433]) := (hN60 420 (by decide)).trans h5
  have f63 : h57 422 = .inl (0, 240, .inl G) := (hN60 422 (by decide)).trans h22
  refine r_iinc (y := nI (k + 1)) (ls' := [some (.ref 420), some (.int (nI s)), some (.int (nI i)), some (.int (nI j)), some (.int bt), some (.int le), some (.int no), some (.int (nI n)), some (.int 0), some (.int 0), some (.int 1), some (.int (nI (k + 1))), some (.long x51), none, some (.long x53), none, some (.int 0), some (.long x55), none, u19, none, u21]) rfl dX12_makes_478 rfl (nI_1 k) (Nat.le_of_ble_eq_true rfl) rfl ?_
  refine r_goto (pc' := 284) rfl dX12_makes_481 ?_
  subst e56
  subst e54
  subst e52
  exact ih h57 _ _ _ _ _ _ hS58 hF59 f62 f63 (by rw [← bkR_s, show 4 * (40 + n) + k = (160 + (4 * n)) + k by omega]; exact f61)
theorem z_mp001 {xs : Nat → Int32} {L d : Nat} {h0 : ev_H} {th : Int32} {tr : Int64} {ty nx tk pl va fa ss wg : Int32} {c m : Nat} {s i j n : Nat} {bt le no : Int32} {G : Nat → Int32} {Y : Nat → Int64} {Q : ev_Q} (hn : n < 40) (hi : i < n) (hj : j < n) (kx : ∀ (h' : ev_H) (u12 : Option Value) (u14 : Option Value) (u16 : Option Value) (u17 : Option Value) (u19 : Option Value) (u21 : Option Value), SH h' → KM [426] h0 h' → h' 420 = .inr (12, [.int th, .long tr, .ref 421, .int ty, .int nx, .int tk, .int pl, .int va, .int fa, .int (nI c), .int (nI m), .int ss, .int wg, .ref 422, .ref 423, .ref 424, .ref 425, .ref 426, .ref 427, .ref 428, .ref 429, .ref 430, .ref 431, .ref 432, .ref 433]) → h' 422 = .inl (0, 240, .inl G) → h' 426 = .inl (1, 480, .inr (.inl (bkR Y (40 + n) (mkV false false 1 bt Y i j) (4)))) → EV xs L (d + 2) 0 0 M_X12_makes 434 h' 484 [some (.ref 420), some (.int (nI s)), some (.int (nI i)), some (.int (nI j)), some (.int bt), some (.int le), some (.int no), some (.int (nI n)), some (.int 0), some (.int 0), some (.int 1), some (.int (nI 4)), u12, none, u14, none, u16, u17, none, u19, none, u21] [] Q) : ∀ (nn k : Nat) (h : ev_H) (u12 : Option Value) (u14 : Option Value) (u16 : Option Value) (u17 : Option Value) (u19 : Option Value) (u21 : Option Value), k + nn = 4 → SH h → KM [426] h0 h → h 420 = .inr (12, [.int th, .long tr, .ref 421, .int ty, .int nx, .int tk, .int pl, .int va, .int fa, .int (nI c), .int (nI m), .int ss, .int wg, .ref 422, .ref 423, .ref 424, .ref 425, .ref 426, .ref 427, .ref 428, .ref 429, .ref 430, .ref 431, .ref 432, .ref 433]) → h 422 = .inl (0, 240, .inl G) → h 426 = .inl (1, 480, .inr (.inl (bkR Y (40 + n) (mkV false false 1 bt Y i j) (k)))) → EV xs L (d + 2) 0 0 M_X12_makes 434 h 284 [some (.ref 420), some (.int (nI s)), some (.int (nI i)), some (.int (nI j)), some (.int bt), some (.int le), some (.int no), some (.int (nI n)), some (.int 0), some (.int 0), some (.int 1), some (.int (nI k)), u12, none, u14, none, u16, u17, none, u19, none, u21] [] Q := by
  intro nn
  induction nn with
  | zero => intro k h u12 u14 u16 u17 u19 u21 hk hS hF h5 h22 h26; exact z_mp001_z hS hn hi hj kx hF h5 h22 h26 (by omega)
  | succ nn ih => intro k h u12 u14 u16 u17 u19 u21 hk hS hF h5 h22 h26; exact z_mp001_s hS hn hi hj kx hF h5 h22 h26 (by omega) (fun h' u12 u14 u16 u17 u19 u21 q0 q1 q2 q3 q4 => ih (k + 1) h' u12 u14 u16 u17 u19 u21 (by omega) q0 q1 q2 q3 q4)
set_option maxRecDepth 20000 in
set_option maxHeartbeats 1000000 in
theorem z_mp002_z {xs : Nat → Int32} {L d : Nat} {h : ev_H} {h0 : ev_H} {th : Int32} {tr : Int64} {ty nx tk pl va fa ss wg : Int32} {c m : Nat} {s i j n : Nat} {bt le no : Int32} {G : Nat → Int32} {Y : Nat → Int64} {Q : ev_Q} {k : Nat} {u12 : Option Value} {u14 : Option Value} {u16 : Option Value} {u17 : Option Value} {u19 : Option Value} {u21 : Option Value} (hS : SH h) (hn : n < 40) (hi : i < n) (hj : j < n) (kx : ∀ (h' : ev_H) (u12 : Option Value) (u14 : Option Value) (u16 : Option Value) (u17 : Option Value) (u19 : Option Value) (u21 : Option Value), SH h' → KM [426] h0 h' → h' 420 = .inr (12, [.int th, .long tr, .ref 421, .int ty, .int nx, .int tk, .int pl, .int va, .int fa, .int (nI c), .int (nI m), .int ss, .int wg, .ref 422, .ref 423, .ref 424, .ref 425, .ref 426, .ref 427, .ref 428, .ref 429, .ref 430, .ref 431, .ref 432, .ref 433]) → h' 422 = .inl (0, 240, .inl G) → h' 426 = .inl (1, 480, .inr (.inl (bkR Y (80 + n) (mkV false false 2 bt Y i j) (4)))) → EV xs L (d + 2) 0 0 M_X12_makes 434 h' 484 [some (.ref 420), some (.int (nI s)), some (.int (nI i)), some (.int (nI j)), some (.int bt), some (.int le), some (.int no), some (.int (nI n)), some (.int 0), some (.int 0), some (.int 2), some (.int (nI 4)), u12, none, u14, none, u16, u17, none, u19, none, u21] [] Q) (hF : KM [426] h0 h) (h5 : h 420 = .inr (12, [.int th, .long tr, .ref 421, .int ty, .int nx, .int tk, .int pl, .int va, .int fa, .int (nI c), .int (nI m), .int ss, .int wg, .ref 422, .ref 423, .ref 424, .ref 425, .ref 426, .ref 427, .ref 428, .ref 429, .ref 430, .ref 431, .ref 432, .ref 433])) (h22 : h 422 = .inl (0, 240, .inl G)) (h26 : h 426 = .inl (1, 480, .inr (.inl (bkR Y (80 + n) (mkV false false 2 bt Y i j) (k))))) (hk : k = 4) : EV xs L (d + 2) 0 0 M_X12_makes 434 h 284 [some (.ref 420), some (.int (nI s)), some (.int (nI i)), some (.int (nI j)), some (.int bt), some (.int le), some (.int no), some (.int (nI n)), some (.int 0), some (.int 0), some (.int 2), some (.int (nI k)), u12, none, u14, none, u16, u17, none, u19, none, u21] [] Q := by
  refine r_iload rfl dX12_makes_284 rfl ?_
  refine r_iconst (v := 4) rfl dX12_makes_286 (by decide) ?_
  refine r_icmp_ge (tgt := 484) rfl rfl dX12_makes_287 (fun _ => ?_) (fun zc => absurd (show nI (4) ≤ nI k from nI_le (a := 4) (b := k) (by omega) (by omega)) zc)
  subst hk
  exact kx h _ _ _ _ _ _ hS hF h5 h22 h26
set_option maxRecDepth 20000 in
set_option maxHeartbeats 1000000 in
theorem z_mp002_s {xs : Nat → Int32} {L d : Nat} {h : ev_H} {h0 : ev_H} {th : Int32} {tr : Int64} {ty nx tk pl va fa ss wg : Int32} {c m : Nat} {s i j n : Nat} {bt le no : Int32} {G : Nat → Int32} {Y : Nat → Int64} {Q : ev_Q} {k : Nat} {u12 : Option Value} {u14 : Option Value} {u16 : Option Value} {u17 : Option Value} {u19 : Option Value} {u21 : Option Value} (hS : SH h) (hn : n < 40) (hi : i < n) (hj : j < n) (kx : ∀ (h' : ev_H) (u12 : Option Value) (u14 : Option Value) (u16 : Option Value) (u17 : Option Value) (u19 : Option Value) (u21 : Option Value), SH h' → KM [426] h0 h' → h' 420 = .inr (12, [.int th, .long tr, .ref 421, .int ty, .int nx, .int tk, .int pl, .int va, .int fa, .int (nI c), .int (nI m), .int ss, .int wg, .ref 422, .ref 423, .ref 424, .ref 425, .ref 426, .ref 427, .ref 428, .ref 429, .ref 430, .ref 431, .ref 432, .ref 433]) → h' 422 = .inl (0, 240, .inl G) → h' 426 = .inl (1, 480, .inr (.inl (bkR Y (80 + n) (mkV false false 2 bt Y i j) (4)))) → EV xs L (d + 2) 0 0 M_X12_makes 434 h' 484 [some (.ref 420), some (.int (nI s)), some (.int (nI i)), some (.int (nI j)), some (.int bt), some (.int le), some (.int no), some (.int (nI n)), some (.int 0), some (.int 0), some (.int 2), some (.int (nI 4)), u12, none, u14, none, u16, u17, none, u19, none, u21] [] Q) (hF : KM [426] h0 h) (h5 : h 420 = .inr (12, [.int th, .long tr, .ref 421, .int ty, .int nx, .int tk, .int pl, .int va, .int fa, .int (nI c), .int (nI m), .int ss, .int wg, .ref 422, .ref 423, .ref 424, .ref 425, .ref 426, .ref 427, .ref 428, .ref 429, .ref 430, .ref 431, .ref 432, .ref 433])) (h22 : h 422 = .inl (0, 240, .inl G)) (h26 : h 426 = .inl (1, 480, .inr (.inl (bkR Y (80 + n) (mkV false false 2 bt Y i j) (k))))) (hk : k < 4) (ih : ∀ (h' : ev_H) (u12' : Option Value) (u14' : Option Value) (u16' : Option Value) (u17' : Option Value) (u19' : Option Value) (u21' : Option Value), SH h' → KM [426] h0 h' → h' 420 = .inr (12, [.int th, .long tr, .ref 421, .int ty, .int nx, .int tk, .int pl, .int va, .int fa, .int (nI c), .int (nI m), .int ss, .int wg, .ref 422, .ref 423, .ref 424, .ref 425, .ref 426, .ref 427, .ref 428, .ref 429, .ref 430, .ref 431, .ref 432, .ref 433]) → h' 422 = .inl (0, 240, .inl G) → h' 426 = .inl (1, 480, .inr (.inl (bkR Y (80 + n) (mkV false false 2 bt Y i j) (k + 1)))) → EV xs L (d + 2) 0 0 M_X12_makes 434 h' 284 [some (.ref 420), some (.int (nI s)), some (.int (nI i)), some (.int (nI j)), some (.int bt), some (.int le), some (.int no), some (.int (nI n)), some (.int 0), some (.int 0), some (.int 2), some (.int (nI (k + 1))), u12', none, u14', none, u16', u17', none, u19', none, u21'] [] Q) : EV xs L (d + 2) 0 0 M_X12_makes 434 h 284 [some (.ref 420), some (.int (nI s)), some (.int (nI i)), some (.int (nI j)), some (.int bt), some (.int le), some (.int no), some (.int (nI n)), some (.int 0), some (.int 0), some (.int 2), some (.int (nI k)), u12, none, u14, none, u16, u17, none, u19, none, u21] [] Q := by
  refine r_iload rfl dX12_makes_284 rfl ?_
  refine r_iconst (v := 4) rfl dX12_makes_286 (by decide) ?_
  refine r_icmp_ge (tgt := 484) rfl rfl dX12_makes_287 (fun zc => absurd zc (show ¬ nI (4) ≤ nI k from nI_ge (a := k) (b := 4) (by omega) (by omega))) (fun _ => ?_)
  refine r_aload_n rfl dX12_makes_290 rfl ?_
  refine r_getv 17 rfl dX12_makes_291 (show 2 ≤ 420 ∧ 420 < 434 by decide) h5 fl_X12_30 rfl ?_
  refine r_sipush (v := 160) rfl dX12_makes_294 (by decide) ?_
  refine r_iload rfl dX12_makes_297 rfl ?_
  refine r_imul rfl dX12_makes_299 ?_
  refine r_eqi (y := 320) (by decide) ?_
  refine r_iconst (v := 4) rfl dX12_makes_300 (by decide) ?_
  refine r_iload_n rfl dX12_makes_301 rfl ?_
  refine r_imul rfl dX12_makes_302 ?_
  refine r_eqi (y := nI (4 * i)) (show 4 * (nI i) = nI (4 * i) from pk_mul 4 i) ?_
  refine r_iadd rfl dX12_makes_303 ?_
  refine r_eqi (y := nI (320 + (4 * i))) (show 320 + (nI (4 * i)) = nI (320 + (4 * i)) from nI_add 320 (4 * i)) ?_
  refine r_iload rfl dX12_makes_304 rfl ?_
  refine r_iadd rfl dX12_makes_306 ?_
  refine r_eqi (y := nI ((320 + (4 * i)) + k)) (show (nI (320 + (4 * i))) + (nI k) = nI ((320 + (4 * i)) + k) from nI_add (320 + (4 * i)) k) ?_
  refine r_laldv (jn := (320 + (4 * i)) + k) (v := Y ((320 + (4 * i)) + k)) rfl dX12_makes_307 (show 2 ≤ 426 ∧ 426 < 434 by decide) h26 (vp_in_nI (n := (320 + (4 * i)) + k) (by omega) (by decide)) (nI_clamp (n := (320 + (4 * i)) + k) (by omega)) (bkR_n (by omega)) ?_
  refine r_topl (fun x51 e52 => ?_)
  refine r_lstore (ls' := [some (.ref 420), some (.int (nI s)), some (.int (nI i)), some (.int (nI j)), some (.int bt), some (.int le), some (.int no), some (.int (nI n)), some (.int 0), some (.int 0), some (.int 2), some (.int (nI k)), some (.long x51), none, u14, none, u16, u17, none, u19, none, u21]) rfl dX12_makes_308 (Nat.le_of_ble_eq_true rfl) rfl ?_
  refine r_aload_n rfl dX12_makes_310 rfl ?_
  refine r_getv 17 rfl dX12_makes_311 (show 2 ≤ 420 ∧ 420 < 434 by decide) h5 fl_X12_30 rfl ?_
  refine r_sipush (v := 160) rfl dX12_makes_314 (by decide) ?_
  refine r_iload rfl dX12_makes_317 rfl ?_
  refine r_imul rfl dX12_makes_319 ?_
  refine r_eqi (y := 320) (by decide) ?_
  refine r_iconst (v := 4) rfl dX12_makes_320 (by decide) ?_
  refine r_iload_n rfl dX12_makes_321 rfl ?_
  refine r_imul rfl dX12_makes_322 ?_
  refine r_eqi (y := nI (4 * j)) (show 4 * (nI j) = nI (4 * j) from pk_mul 4 j) ?_
  refine r_iadd rfl dX12_makes_323 ?_
  refine r_eqi (y := nI (320 + (4 * j))) (show 320 + (nI (4 * j)) = nI (320 + (4 * j)) from nI_add 320 (4 * j)) ?_
  refine r_iload rfl dX12_makes_324 rfl ?_
  refine r_iadd rfl dX12_makes_326 ?_
  refine r_eqi (y := nI ((320 + (4 * j)) + k)) (show (nI (320 + (4 * j))) + (nI k) = nI ((320 + (4 * j)) + k) from nI_add (320 + (4 * j)) k) ?_
  refine r_laldv (jn := (320 + (4 * j)) + k) (v := Y ((320 + (4 * j)) + k)) rfl dX12_makes_327 (show 2 ≤ 426 ∧ 426 < 434 by decide) h26 (vp_in_nI (n := (320 + (4 * j)) + k) (by omega) (by decide)) (nI_clamp (n := (320 + (4 * j)) + k) (by omega)) (bkR_n (by omega)) ?_
  refine r_topl (fun x53 e54 => ?_)
  refine r_lstore (ls' := [some (.ref 420), some (.int (nI s)), some (.int (nI i)), some (.int (nI j)), some (.int bt), some (.int le), some (.int no), some (.int (nI n)), some (.int 0), some (.int 0), some (.int 2), some (.int (nI k)), some (.long x51), none, some (.long x53), none, u16, u17, none, u19, none, u21]) rfl dX12_makes_328 (Nat.le_of_ble_eq_true rfl) rfl ?_
  refine r_iload rfl dX12_makes_330 rfl ?_
  refine r_iconst (v := 1) rfl dX12_makes_332 (by decide) ?_
  refine r_icmp_ne (tgt := 341) rfl rfl dX12_makes_333 (fun _ => ?_) (fun zc => absurd zc (by decide))
  refine r_iload rfl dX12_makes_341 rfl ?_
  refine r_if_eq (tgt := 355) rfl rfl dX12_makes_343 (fun _ => ?_) (fun zc => absurd zc (by decide))
  refine r_iconst (v := 0) rfl dX12_makes_355 (by decide) ?_
  refine r_istore (ls' := [some (.ref 420), some (.int (nI s)), some (.int (nI i)), some (.int (nI j)), some (.int bt), some (.int le), some (.int no), some (.int (nI n)), some (.int 0), some (.int 0), some (.int 2), some (.int (nI k)), some (.long x51), none, some (.long x53), none, some (.int 0), u17, none, u19, none, u21]) rfl dX12_makes_356 (Nat.le_of_ble_eq_true rfl) rfl ?_
  refine r_iload rfl dX12_makes_358 rfl ?_
  refine r_if_eq (tgt := 371) rfl rfl dX12_makes_360 (fun _ => ?_) (fun zc => absurd zc (by decide))
  refine r_lload rfl dX12_makes_371 rfl ?_
  refine r_lload rfl dX12_makes_373 rfl ?_
  refine r_land rfl dX12_makes_375 ?_
  refine r_topl (fun x55 e56 => ?_)
  refine r_lstore (ls' := [some (.ref 420), some (.int (nI s)), some (.int (nI i)), some (.int (nI j)), some (.int bt), some (.int le), some (.int no), some (.int (nI n)), some (.int 0), some (.int 0), some (.int 2), some (.int (nI k)), some (.long x51), none, some (.long x53), none, some (.int 0), some (.long x55), none, u19, none, u21]) rfl dX12_makes_376 (Nat.le_of_ble_eq_true rfl) rfl ?_
  refine r_iload rfl dX12_makes_378 rfl ?_
  refine r_iconst (v := 2) rfl dX12_makes_380 (by decide) ?_
  refine r_icmp_ne (tgt := 457) rfl rfl dX12_makes_381 (fun zc => absurd zc (by decide)) (fun _ => ?_)
  refine r_iload rfl dX12_makes_384 rfl ?_
  refine r_if_eq (tgt := 457) rfl rfl dX12_makes_386 (fun _ => ?_) (fun zc => absurd zc (by decide))
  refine r_aload_n rfl dX12_makes_457 rfl ?_
  refine r_getv 17 rfl dX12_makes_458 (show 2 ≤ 420 ∧ 420 < 434 by decide) h5 fl_X12_30 rfl ?_
  refine r_sipush (v := 160) rfl dX12_makes_461 (by decide) ?_
  refine r_iload rfl dX12_makes_464 rfl ?_
  refine r_imul rfl dX12_makes_466 ?_
  refine r_eqi (y := 320) (by decide) ?_
  refine r_iconst (v := 4) rfl dX12_makes_467 (by decide) ?_
  refine r_iload rfl dX12_makes_468 rfl ?_
  refine r_imul rfl dX12_makes_470 ?_
  refine r_eqi (y := nI (4 * n)) (show 4 * (nI n) = nI (4 * n) from pk_mul 4 n) ?_
  refine r_iadd rfl dX12_makes_471 ?_
  refine r_eqi (y := nI (320 + (4 * n))) (show 320 + (nI (4 * n)) = nI (320 + (4 * n)) from nI_add 320 (4 * n)) ?_
  refine r_iload rfl dX12_makes_472 rfl ?_
  refine r_iadd rfl dX12_makes_474 ?_
  refine r_eqi (y := nI ((320 + (4 * n)) + k)) (show (nI (320 + (4 * n))) + (nI k) = nI ((320 + (4 * n)) + k) from nI_add (320 + (4 * n)) k) ?_
  refine r_lload rfl dX12_makes_475 rfl ?_
  refine e_last (jn := (320 + (4 * n)) + k) rfl dX12_makes_477 (show 2 ≤ 426 ∧ 426 < 434 by decide) hS hF (by decide) h26 (vp_in_nI (n := (320 + (4 * n)) + k) (by omega) (by decide)) (nI_clamp (n := (320 + (4 * n)) + k) (by omega)) (fun h57 hS58 hF59 hN60 f61 => ?_)
  have f62 : h57 420 = .inr (12, [.int th, .long tr, .ref 421, .int ty, .int nx, .int tk, .int pl, .int va, .int fa, .int (nI c), .int (nI m), .int ss, .int wg, .ref 422, .ref 423, .ref 424, .ref 425, .ref 426, .ref 427, .ref 428, .ref 429, .ref 430, .ref 431, .ref 432, .ref 433]) := (hN60 420 (by decide)).trans h5
  have f63 : h57 422 = .inl (0, 240, .inl G) := (hN60 422 (by decide)).trans h22
  refine r_iinc (y := nI (k + 1)) (ls' := [some (.ref 420), some (.int (nI s)), some (.int (nI i)), some (.int (nI j)), some (.int bt), some (.int le), some (.int no), some (.int (nI n)), some (.int 0), some (.int 0), some (.int 2), some (.int (nI (k + 1))), some (.long x51), none, some (.long x53), none, some (.int 0), some (.long x55), none, u19, none, u21]) rfl dX12_makes_478 rfl (nI_1 k) (Nat.le_of_ble_eq_true rfl) rfl ?_
  refine r_goto (pc' := 284) rfl dX12_makes_481 ?_
  subst e56
  subst e54
  subst e52
  exact ih h57 _ _ _ _ _ _ hS58 hF59 f62 f63 (by rw [← bkR_s, show 4 * (80 + n) + k = (320 + (4 * n)) + k by omega]; exact f61)
theorem z_mp002 {xs : Nat → Int32} {L d : Nat} {h0 : ev_H} {th : Int32} {tr : Int64} {ty nx tk pl va fa ss wg : Int32} {c m : Nat} {s i j n : Nat} {bt le no : Int32} {G : Nat → Int32} {Y : Nat → Int64} {Q : ev_Q} (hn : n < 40) (hi : i < n) (hj : j < n) (kx : ∀ (h' : ev_H) (u12 : Option Value) (u14 : Option Value) (u16 : Option Value) (u17 : Option Value) (u19 : Option Value) (u21 : Option Value), SH h' → KM [426] h0 h' → h' 420 = .inr (12, [.int th, .long tr, .ref 421, .int ty, .int nx, .int tk, .int pl, .int va, .int fa, .int (nI c), .int (nI m), .int ss, .int wg, .ref 422, .ref 423, .ref 424, .ref 425, .ref 426, .ref 427, .ref 428, .ref 429, .ref 430, .ref 431, .ref 432, .ref 433]) → h' 422 = .inl (0, 240, .inl G) → h' 426 = .inl (1, 480, .inr (.inl (bkR Y (80 + n) (mkV false false 2 bt Y i j) (4)))) → EV xs L (d + 2) 0 0 M_X12_makes 434 h' 484 [some (.ref 420), some (.int (nI s)), some (.int (nI i)), some (.int (nI j)), some (.int bt), some (.int le), some (.int no), some (.int (nI n)), some (.int 0), some (.int 0), some (.int 2), some (.int (nI 4)), u12, none, u14, none, u16, u17, none, u19, none, u21] [] Q) : ∀ (nn k : Nat) (h : ev_H) (u12 : Option Value) (u14 : Option Value) (u16 : Option Value) (u17 : Option Value) (u19 : Option Value) (u21 : Option Value), k + nn = 4 → SH h → KM [426] h0 h → h 420 = .inr (12, [.int th, .long tr, .ref 421, .int ty, .int nx, .int tk, .int pl, .int va, .int fa, .int (nI c), .int (nI m), .int ss, .int wg, .ref 422, .ref 423, .ref 424, .ref 425, .ref 426, .ref 427, .ref 428, .ref 429, .ref 430, .ref 431, .ref 432, .ref 433]) → h 422 = .inl (0, 240, .inl G) → h 426 = .inl (1, 480, .inr (.inl (bkR Y (80 + n) (mkV false false 2 bt Y i j) (k)))) → EV xs L (d + 2) 0 0 M_X12_makes 434 h 284 [some (.ref 420), some (.int (nI s)), some (.int (nI i)), some (.int (nI j)), some (.int bt), some (.int le), some (.int no), some (.int (nI n)), some (.int 0), some (.int 0), some (.int 2), some (.int (nI k)), u12, none, u14, none, u16, u17, none, u19, none, u21] [] Q := by
  intro nn
  induction nn with
  | zero => intro k h u12 u14 u16 u17 u19 u21 hk hS hF h5 h22 h26; exact z_mp002_z hS hn hi hj kx hF h5 h22 h26 (by omega)
  | succ nn ih => intro k h u12 u14 u16 u17 u19 u21 hk hS hF h5 h22 h26; exact z_mp002_s hS hn hi hj kx hF h5 h22 h26 (by omega) (fun h' u12 u14 u16 u17 u19 u21 q0 q1 q2 q3 q4 => ih (k + 1) h' u12 u14 u16 u17 u19 u21 (by omega) q0 q1 q2 q3 q4)
set_option maxRecDepth 20000 in
set_option maxHeartbeats 1000000 in
theorem z_mt11 {xs : Nat → Int32} {L d : Nat} {h : ev_H} {th : Int32} {tr : Int64} {ty nx tk pl va fa ss wg : Int32} {c m : Nat} {s i j n : Nat} {bt le no : Int32} {G : Nat → Int32} {H Y : Nat → Int64} (hS : SH h) (h5 : h 420 = .inr (12, [.int th, .long tr, .ref 421, .int ty, .int nx, .int tk, .int pl, .int va, .int fa, .int (nI c), .int (nI m), .int ss, .int wg, .ref 422, .ref 423, .ref 424, .ref 425, .ref 426, .ref 427, .ref 428, .ref 429, .ref 430, .ref 431, .ref 432, .ref 433])) (hc : c ≤ 16) (hm : m ≤ 24) (hn : n < 40) (hi : i < n) (hj : j < n) (h22 : h 422 = cI 240 G) (h25 : h 425 = cL 160 H) (h26 : h 426 = cL 480 Y) (ho : ¬ ltM G 1 c &&& bt = 0) (ht : ¬ ltM G 2 c &&& bt = 0) : EV xs L (d + 2) 0 0 M_X12_makes 434 h 230 [some (.ref 420), some (.int (nI s)), some (.int (nI i)), some (.int (nI j)), some (.int bt), some (.int le), some (.int no), some (.int (nI n)), none, none, none, none, none, none, none, none, none, none, none, none, none, none] [] (fun sz' h' r => sz' = 434 ∧ SH h' ∧ KM [420, 425, 426] h h' ∧ h' 420 = c420 th tr ty nx tk pl va fa (nI c) (nI (m + 1)) ss wg ∧ h' 425 = cL 160 (hwR H n (soB (G (6 * n)) (G (6 * n + 1))) 256) ∧ h' 426 = cL 480 (mkY true true bt Y n i j) ∧ r = [.int 1]) := by
  refine r_aload_n rfl dX12_makes_230 rfl ?_
  refine r_iload rfl dX12_makes_231 rfl ?_
  refine cl_X12_121 rfl rfl dX12_makes_233 (show 2 ≤ 420 ∧ 420 < 434 by decide).1 (show 2 ≤ 420 ∧ 420 < 434 by decide).2 h5 (Nat.le_of_ble_eq_true rfl) (z_X12_holding (i := n) hS (by omega) h5 h22 h25) ?_
  rintro _ h51 _ ⟨rfl, hS52, hk53, f54, rfl⟩
  have hF55 := KM_tr (KM_rf (Mod := [420, 425, 426]) h) (KM_sb (by decide) hk53)
  have f56 : h51 420 = .inr (12, [.int th, .long tr, .ref 421, .int ty, .int nx, .int tk, .int pl, .int va, .int fa, .int (nI c), .int (nI m), .int ss, .int wg, .ref 422, .ref 423, .ref 424, .ref 425, .ref 426, .ref 427, .ref 428, .ref 429, .ref 430, .ref 431, .ref 432, .ref 433]) := (hk53 420 (by decide)).trans h5
  have f57 : h51 422 = .inl (0, 240, .inl G) := (hk53 422 (by decide)).trans h22
  have f58 : h51 426 = .inl (1, 480, .inr (.inl Y)) := (hk53 426 (by decide)).trans h26
  refine r_aload_n rfl dX12_makes_236 rfl ?_
  refine r_iconst (v := 1) rfl dX12_makes_237 (by decide) ?_
  refine cl_X12_130 rfl rfl dX12_makes_238 (show 2 ≤ 420 ∧ 420 < 434 by decide).1 (show 2 ≤ 420 ∧ 420 < 434 by decide).2 f56 (Nat.le_of_ble_eq_true rfl) (y_X12_lettersOf hS52 f56 hc hm f57) ?_
  rintro _ h59 _ ⟨rfl, e60, rfl⟩
  replace e60 := e60.symm
  subst e60
  refine r_iload rfl dX12_makes_241 rfl ?_
  refine r_iand rfl dX12_makes_243 ?_
  refine r_if_eq (tgt := 251) rfl rfl dX12_makes_244 (fun zc => absurd zc ho) (fun _ => ?_)
  refine r_iconst (v := 1) rfl dX12_makes_247 (by decide) ?_
  refine r_goto (pc' := 252) rfl dX12_makes_248 ?_
  refine r_istore (ls' := [some (.ref 420), some (.int (nI s)), some (.int (nI i)), some (.int (nI j)), some (.int bt), some (.int le), some (.int no), some (.int (nI n)), some (.int 1), none, none, none, none, none, none, none, none, none, none, none, none, none]) rfl dX12_makes_252 (Nat.le_of_ble_eq_true rfl) rfl ?_
  refine r_aload_n rfl dX12_makes_254 rfl ?_
  refine r_iconst (v := 2) rfl dX12_makes_255 (by decide) ?_
  refine cl_X12_130 rfl rfl dX12_makes_256 (show 2 ≤ 420 ∧ 420 < 434 by decide).1 (show 2 ≤ 420 ∧ 420 < 434 by decide).2 f56 (Nat.le_of_ble_eq_true rfl) (y_X12_lettersOf hS52 f56 hc hm f57) ?_
  rintro _ h61 _ ⟨rfl, e62, rfl⟩
  replace e62 := e62.symm
  subst e62
  refine r_iload rfl dX12_makes_259 rfl ?_
  refine r_iand rfl dX12_makes_261 ?_
  refine r_if_eq (tgt := 269) rfl rfl dX12_makes_262 (fun zc => absurd zc ht) (fun _ => ?_)
  refine r_iconst (v := 1) rfl dX12_makes_265 (by decide) ?_
  refine r_goto (pc' := 270) rfl dX12_makes_266 ?_
  refine r_istore (ls' := [some (.ref 420), some (.int (nI s)), some (.int (nI i)), some (.int (nI j)), some (.int bt), some (.int le), some (.int no), some (.int (nI n)), some (.int 1), some (.int 1), none, none, none, none, none, none, none, none, none, none, none, none]) rfl dX12_makes_270 (Nat.le_of_ble_eq_true rfl) rfl ?_
  refine r_iconst (v := 0) rfl dX12_makes_272 (by decide) ?_
  refine r_istore (ls' := [some (.ref 420), some (.int (nI s)), some (.int (nI i)), some (.int (nI j)), some (.int bt), some (.int le), some (.int no), some (.int (nI n)), some (.int 1), some (.int 1), some (.int 0), none, none, none, none, none, none, none, none, none, none, none]) rfl dX12_makes_273 (Nat.le_of_ble_eq_true rfl) rfl ?_
  refine r_iload rfl dX12_makes_275 rfl ?_
  refine r_iconst (v := 3) rfl dX12_makes_277 (by decide) ?_
  refine r_icmp_ge (tgt := 490) rfl rfl dX12_makes_278 (fun zc => absurd zc (by decide)) (fun _ => ?_)
  refine r_iconst (v := 0) rfl dX12_makes_281 (by decide) ?_
  refine r_istore (ls' := [some (.ref 420), some (.int (nI s)), some (.int (nI i)), some (.int (nI j)), some (.int bt), some (.int le), some (.int no), some (.int (nI n)), some (.int 1), some (.int 1), some (.int 0), some (.int 0), none, none, none, none, none, none, none, none, none, none]) rfl dX12_makes_282 (Nat.le_of_ble_eq_true rfl) rfl ?_
  refine z_mp110 (Y := Y) (h0 := h51) hn hi hj ?_ 4 0 h51 _ _ _ _ _ _ rfl hS52 (KM_rf _) f56 f57 (by rw [bkR_0]; exact f58)
  intro h63 u64 u65 u66 u67 u68 u69 hS70 hF71 f72 f73 f74
  have f77 : h63 425 = .inl (1, 160, .inr (.inl (hwR H n (soB (G (6 * n)) (G (6 * n + 1))) 256))) := (hF71 425 (by decide)).trans f54
  have hF76 := KM_tr hF55 (KM_sb (by decide) hF71)
  refine r_iinc (y := 1) (ls' := [some (.ref 420), some (.int (nI s)), some (.int (nI i)), some (.int (nI j)), some (.int bt), some (.int le), some (.int no), some (.int (nI n)), some (.int 1), some (.int 1), some (.int 1), some (.int (nI 4)), u64, none, u65, none, u66, u67, none, u68, none, u69]) rfl dX12_makes_484 rfl (by decide) (Nat.le_of_ble_eq_true rfl) rfl ?_
  refine r_goto (pc' := 275) rfl dX12_makes_487 ?_
  refine r_iload rfl dX12_makes_275 rfl ?_
  refine r_iconst (v := 3) rfl dX12_makes_277 (by decide) ?_
  refine r_icmp_ge (tgt := 490) rfl rfl dX12_makes_278 (fun zc => absurd zc (by decide)) (fun _ => ?_)
  refine r_iconst (v := 0) rfl dX12_makes_281 (by decide) ?_
  refine r_istore (ls' := [some (.ref 420), some (.int (nI s)), some (.int (nI i)), some (.int (nI j)), some (.int bt), some (.int le), some (.int no), some (.int (nI n)), some (.int 1), some (.int 1), some (.int 1), some (.int 0), u64, none, u65, none, u66, u67, none, u68, none, u69]) rfl dX12_makes_282 (Nat.le_of_ble_eq_true rfl) rfl ?_
  refine z_mp111 (Y := bkR Y (n) (mkV true true 0 bt Y i j) 4) (h0 := h63) hn hi hj ?_ 4 0 h63 _ _ _ _ _ _ rfl hS70 (KM_rf _) f72 f73 (by rw [bkR_0]; exact f74)
  intro h78 u79 u80 u81 u82 u83 u84 hS85 hF86 f87 f88 f89
  have f92 : h78 425 = .inl (1, 160, .inr (.inl (hwR H n (soB (G (6 * n)) (G (6 * n + 1))) 256))) := (hF86 425 (by decide)).trans f77
  have hF91 := KM_tr hF76 (KM_sb (by decide) hF86)
  refine r_iinc (y := 2) (ls' := [some (.ref 420), some (.int (nI s)), some (.int (nI i)), some (.int (nI j)), some (.int bt), some (.int le), some (.int no), some (.int (nI n)), some (.int 1), some (.int 1), some (.int 2), some (.int (nI 4)), u79, none, u80, none, u81, u82, none, u83, none, u84]) rfl dX12_makes_484 rfl (by decide) (Nat.le_of_ble_eq_true rfl) rfl ?_
  refine r_goto (pc' := 275) rfl dX12_makes_487 ?_
  refine r_iload rfl dX12_makes_275 rfl ?_
  refine r_iconst (v := 3) rfl dX12_makes_277 (by decide) ?_
  refine r_icmp_ge (tgt := 490) rfl rfl dX12_makes_278 (fun zc => absurd zc (by decide)) (fun _ => ?_)
  refine r_iconst (v := 0) rfl dX12_makes_281 (by decide) ?_
  refine r_istore (ls' := [some (.ref 420), some (.int (nI s)), some (.int (nI i)), some (.int (nI j)), some (.int bt), some (.int le), some (.int no), some (.int (nI n)), some (.int 1), some (.int 1), some (.int 2), some (.int 0), u79, none, u80, none, u81, u82, none, u83, none, u84]) rfl dX12_makes_282 (Nat.le_of_ble_eq_true rfl) rfl ?_
  refine z_mp112 (Y := bkR (bkR Y (n) (mkV true true 0 bt Y i j) 4) (40 + n) (mkV true true 1 bt (bkR Y (n) (mkV true true 0 bt Y i j) 4) i j) 4) (h0 := h78) hn hi hj ?_ 4 0 h78 _ _ _ _ _ _ rfl hS85 (KM_rf _) f87 f88 (by rw [bkR_0]; exact f89)
  intro h93 u94 u95 u96 u97 u98 u99 hS100 hF101 f102 f103 f104
  have f107 : h93 425 = .inl (1, 160, .inr (.inl (hwR H n (soB (G (6 * n)) (G (6 * n + 1))) 256))) := (hF101 425 (by decide)).trans f92
  have hF106 := KM_tr hF91 (KM_sb (by decide) hF101)
  refine r_iinc (y := 3) (ls' := [some (.ref 420), some (.int (nI s)), some (.int (nI i)), some (.int (nI j)), some (.int bt), some (.int le), some (.int no), some (.int (nI n)), some (.int 1), some (.int 1), some (.int 3), some (.int (nI 4)), u94, none, u95, none, u96, u97, none, u98, none, u99]) rfl dX12_makes_484 rfl (by decide) (Nat.le_of_ble_eq_true rfl) rfl ?_
  refine r_goto (pc' := 275) rfl dX12_makes_487 ?_
  refine r_iload rfl dX12_makes_275 rfl ?_
  refine r_iconst (v := 3) rfl dX12_makes_277 (by decide) ?_
  refine r_icmp_ge (tgt := 490) rfl rfl dX12_makes_278 (fun _ => ?_) (fun zc => absurd zc (by decide))
  refine r_aload_n rfl dX12_makes_490 rfl ?_
  refine r_dup rfl dX12_makes_491 rfl ?_
  refine r_getv 10 rfl dX12_makes_492 (show 2 ≤ 420 ∧ 420 < 434 by decide) f102 fl_X12_115 rfl ?_
  refine r_iconst (v := 1) rfl dX12_makes_495 (by decide) ?_
  refine r_iadd rfl dX12_makes_496 ?_
  refine r_eqi (y := nI (m + 1)) (show (nI m) + 1 = nI (m + 1) from nI_add m 1) ?_
  refine e_put 10 (fs' := [.int th, .long tr, .ref 421, .int ty, .int nx, .int tk, .int pl, .int va, .int fa, .int (nI c), .int (nI (m + 1)), .int ss, .int wg, .ref 422, .ref 423, .ref 424, .ref 425, .ref 426, .ref 427, .ref 428, .ref 429, .ref 430, .ref 431, .ref 432, .ref 433]) rfl dX12_makes_497 (show 2 ≤ 420 ∧ 420 < 434 by decide) hS100 hF106 (by decide) f102 (fp_X12_115 rfl _) (Nat.le_of_ble_eq_true rfl) rfl (fun h108 hS109 hF110 hN111 f112 => ?_)
  have f113 : h108 422 = .inl (0, 240, .inl G) := (hN111 422 (by decide)).trans f103
  have f114 : h108 425 = .inl (1, 160, .inr (.inl (hwR H n (soB (G (6 * n)) (G (6 * n + 1))) 256))) := (hN111 425 (by decide)).trans f107
  have f115 : h108 426 = .inl (1, 480, .inr (.inl (bkR (bkR (bkR Y (n) (mkV true true 0 bt Y i j) 4) (40 + n) (mkV true true 1 bt (bkR Y (n) (mkV true true 0 bt Y i j) 4) i j) 4) (80 + n) (mkV true true 2 bt (bkR (bkR Y (n) (mkV true true 0 bt Y i j) 4) (40 + n) (mkV true true 1 bt (bkR Y (n) (mkV true true 0 bt Y i j) 4) i j) 4) i j) 4))) := (hN111 426 (by decide)).trans f104
  refine r_iconst (v := 1) rfl dX12_makes_500 (by decide) ?_
  exact r_ret dX12_makes_501 (rt_z rfl (Or.inr rfl)) ⟨rfl, hS109, hF110, f112, f114, f115, rfl⟩
set_option maxRecDepth 20000 in
set_option maxHeartbeats 1000000 in
theorem z_mt10 {xs : Nat → Int32} {L d : Nat} {h : ev_H} {th : Int32} {tr : Int64} {ty nx tk pl va fa ss wg : Int32} {c m : Nat} {s i j n : Nat} {bt le no : Int32} {G : Nat → Int32} {H Y : Nat → Int64} (hS : SH h) (h5 : h 420 = .inr (12, [.int th, .long tr, .ref 421, .int ty, .int nx, .int tk, .int pl, .int va, .int fa, .int (nI c), .int (nI m), .int ss, .int wg, .ref 422, .ref 423, .ref 424, .ref 425, .ref 426, .ref 427, .ref 428, .ref 429, .ref 430, .ref 431, .ref 432, .ref 433])) (hc : c ≤ 16) (hm : m ≤ 24) (hn : n < 40) (hi : i < n) (hj : j < n) (h22 : h 422 = cI 240 G) (h25 : h 425 = cL 160 H) (h26 : h 426 = cL 480 Y) (ho : ¬ ltM G 1 c &&& bt = 0) (ht : ltM G 2 c &&& bt = 0) : EV xs L (d + 2) 0 0 M_X12_makes 434 h 230 [some (.ref 420), some (.int (nI s)), some (.int (nI i)), some (.int (nI j)), some (.int bt), some (.int le), some (.int no), some (.int (nI n)), none, none, none, none, none, none, none, none, none, none, none, none, none, none] [] (fun sz' h' r => sz' = 434 ∧ SH h' ∧ KM [420, 425, 426] h h' ∧ h' 420 = c420 th tr ty nx tk pl va fa (nI c) (nI (m + 1)) ss wg ∧ h' 425 = cL 160 (hwR H n (soB (G (6 * n)) (G (6 * n + 1))) 256) ∧ h' 426 = cL 480 (mkY true false bt Y n i j) ∧ r = [.int 1]) := by
  refine r_aload_n rfl dX12_makes_230 rfl ?_
  refine r_iload rfl dX12_makes_231 rfl ?_
  refine cl_X12_121 rfl rfl dX12_makes_233 (show 2 ≤ 420 ∧ 420 < 434 by decide).1 (show 2 ≤ 420 ∧ 420 < 434 by decide).2 h5 (Nat.le_of_ble_eq_true rfl) (z_X12_holding (i := n) hS (by omega) h5 h22 h25) ?_
  rintro _ h51 _ ⟨rfl, hS52, hk53, f54, rfl⟩
  have hF55 := KM_tr (KM_rf (Mod := [420, 425, 426]) h) (KM_sb (by decide) hk53)
  have f56 : h51 420 = .inr (12, [.int th, .long tr, .ref 421, .int ty, .int nx, .int tk, .int pl, .int va, .int fa, .int (nI c), .int (nI m), .int ss, .int wg, .ref 422, .ref 423, .ref 424, .ref 425, .ref 426, .ref 427, .ref 428, .ref 429, .ref 430, .ref 431, .ref 432, .ref 433]) := (hk53 420 (by decide)).trans h5
  have f57 : h51 422 = .inl (0, 240, .inl G) := (hk53 422 (by decide)).trans h22
  have f58 : h51 426 = .inl (1, 480, .inr (.inl Y)) := (hk53 426 (by decide)).trans h26
  refine r_aload_n rfl dX12_makes_236 rfl ?_
  refine r_iconst (v := 1) rfl dX12_makes_237 (by decide) ?_
  refine cl_X12_130 rfl rfl dX12_makes_238 (show 2 ≤ 420 ∧ 420 < 434 by decide).1 (show 2 ≤ 420 ∧ 420 < 434 by decide).2 f56 (Nat.le_of_ble_eq_true rfl) (y_X12_lettersOf hS52 f56 hc hm f57) ?_
  rintro _ h59 _ ⟨rfl, e60, rfl⟩
  replace e60 := e60.symm
  subst e60
  refine r_iload rfl dX12_makes_241 rfl ?_
  refine r_iand rfl dX12_makes_243 ?_
  refine r_if_eq (tgt := 251) rfl rfl dX12_makes_244 (fun zc => absurd zc ho) (fun _ => ?_)
  refine r_iconst (v := 1) rfl dX12_makes_247 (by decide) ?_
  refine r_goto (pc' := 252) rfl dX12_makes_248 ?_
  refine r_istore (ls' := [some (.ref 420), some (.int (nI s)), some (.int (nI i)), some (.int (nI j)), some (.int bt), some (.int le), some (.int no), some (.int (nI n)), some (.int 1), none, none, none, none, none, none, none, none, none, none, none, none, none]) rfl dX12_makes_252 (Nat.le_of_ble_eq_true rfl) rfl ?_
  refine r_aload_n rfl dX12_makes_254 rfl ?_
  refine r_iconst (v := 2) rfl dX12_makes_255 (by decide) ?_
  refine cl_X12_130 rfl rfl dX12_makes_256 (show 2 ≤ 420 ∧ 420 < 434 by decide).1 (show 2 ≤ 420 ∧ 420 < 434 by decide).2 f56 (Nat.le_of_ble_eq_true rfl) (y_X12_lettersOf hS52 f56 hc hm f57) ?_
  rintro _ h61 _ ⟨rfl, e62, rfl⟩
  replace e62 := e62.symm
  subst e62
  refine r_iload rfl dX12_makes_259 rfl ?_
  refine r_iand rfl dX12_makes_261 ?_
  refine r_if_eq (tgt := 269) rfl rfl dX12_makes_262 (fun _ => ?_) (fun zc => absurd ht zc)
  refine r_iconst (v := 0) rfl dX12_makes_269 (by decide) ?_
  refine r_istore (ls' := [some (.ref 420), some (.int (nI s)), some (.int (nI i)), some (.int (nI j)), some (.int bt), some (.int le), some (.int no), some (.int (nI n)), some (.int 1), some (.int 0), none, none, none, none, none, none, none, none, none, none, none, none]) rfl dX12_makes_270 (Nat.le_of_ble_eq_true rfl) rfl ?_
  refine r_iconst (v := 0) rfl dX12_makes_272 (by decide) ?_
  refine r_istore (ls' := [some (.ref 420), some (.int (nI s)), some (.int (nI i)), some (.int (nI j)), some (.int bt), some (.int le), some (.int no), some (.int (nI n)), some (.int 1), some (.int 0), some (.int 0), none, none, none, none, none, none, none, none, none, none, none]) rfl dX12_makes_273 (Nat.le_of_ble_eq_true rfl) rfl ?_
  refine r_iload rfl dX12_makes_275 rfl ?_
  refine r_iconst (v := 3) rfl dX12_makes_277 (by decide) ?_
  refine r_icmp_ge (tgt := 490) rfl rfl dX12_makes_278 (fun zc => absurd zc (by decide)) (fun _ => ?_)
  refine r_iconst (v := 0) rfl dX12_makes_281 (by decide) ?_
  refine r_istore (ls' := [some (.ref 420), some (.int (nI s)), some (.int (nI i)), some (.int (nI j)), some (.int bt), some (.int le), some (.int no), some (.int (nI n)), some (.int 1), some (.int 0), some (.int 0), some (.int 0), none, none, none, none, none, none, none, none, none, none]) rfl dX12_makes_282 (Nat.le_of_ble_eq_true rfl) rfl ?_
  refine z_mp100 (Y := Y) (h0 := h51) hn hi hj ?_ 4 0 h51 _ _ _ _ _ _ rfl hS52 (KM_rf _) f56 f57 (by rw [bkR_0]; exact f58)
  intro h63 u64 u65 u66 u67 u68 u69 hS70 hF71 f72 f73 f74
  have f77 : h63 425 = .inl (1, 160, .inr (.inl (hwR H n (soB (G (6 * n)) (G (6 * n + 1))) 256))) := (hF71 425 (by decide)).trans f54
  have hF76 := KM_tr hF55 (KM_sb (by decide) hF71)
  refine r_iinc (y := 1) (ls' := [some (.ref 420), some (.int (nI s)), some (.int (nI i)), some (.int (nI j)), some (.int bt), some (.int le), some (.int no), some (.int (nI n)), some (.int 1), some (.int 0), some (.int 1), some (.int (nI 4)), u64, none, u65, none, u66, u67, none, u68, none, u69]) rfl dX12_makes_484 rfl (by decide) (Nat.le_of_ble_eq_true rfl) rfl ?_
  refine r_goto (pc' := 275) rfl dX12_makes_487 ?_
  refine r_iload rfl dX12_makes_275 rfl ?_
  refine r_iconst (v := 3) rfl dX12_makes_277 (by decide) ?_
  refine r_icmp_ge (tgt := 490) rfl rfl dX12_makes_278 (fun zc => absurd zc (by decide)) (fun _ => ?_)
  refine r_iconst (v := 0) rfl dX12_makes_281 (by decide) ?_
  refine r_istore (ls' := [some (.ref 420), some (.int (nI s)), some (.int (nI i)), some (.int (nI j)), some (.int bt), some (.int le), some (.int no), some (.int (nI n)), some (.int 1), some (.int 0), some (.int 1), some (.int 0), u64, none, u65, none, u66, u67, none, u68, none, u69]) rfl dX12_makes_282 (Nat.le_of_ble_eq_true rfl) rfl ?_
  refine z_mp101 (Y := bkR Y (n) (mkV true false 0 bt Y i j) 4) (h0 := h63) hn hi hj ?_ 4 0 h63 _ _ _ _ _ _ rfl hS70 (KM_rf _) f72 f73 (by rw [bkR_0]; exact f74)
  intro h78 u79 u80 u81 u82 u83 u84 hS85 hF86 f87 f88 f89
  have f92 : h78 425 = .inl (1, 160, .inr (.inl (hwR H n (soB (G (6 * n)) (G (6 * n + 1))) 256))) := (hF86 425 (by decide)).trans f77
  have hF91 := KM_tr hF76 (KM_sb (by decide) hF86)
  refine r_iinc (y := 2) (ls' := [some (.ref 420), some (.int (nI s)), some (.int (nI i)), some (.int (nI j)), some (.int bt), some (.int le), some (.int no), some (.int (nI n)), some (.int 1), some (.int 0), some (.int 2), some (.int (nI 4)), u79, none, u80, none, u81, u82, none, u83, none, u84]) rfl dX12_makes_484 rfl (by decide) (Nat.le_of_ble_eq_true rfl) rfl ?_
  refine r_goto (pc' := 275) rfl dX12_makes_487 ?_
  refine r_iload rfl dX12_makes_275 rfl ?_
  refine r_iconst (v := 3) rfl dX12_makes_277 (by decide) ?_
  refine r_icmp_ge (tgt := 490) rfl rfl dX12_makes_278 (fun zc => absurd zc (by decide)) (fun _ => ?_)
  refine r_iconst (v := 0) rfl dX12_makes_281 (by decide) ?_
  refine r_istore (ls' := [some (.ref 420), some (.int (nI s)), some (.int (nI i)), some (.int (nI j)), some (.int bt), some (.int le), some (.int no), some (.int (nI n)), some (.int 1), some (.int 0), some (.int 2), some (.int 0), u79, none, u80, none, u81, u82, none, u83, none, u84]) rfl dX12_makes_282 (Nat.le_of_ble_eq_true rfl) rfl ?_
  refine z_mp102 (Y := bkR (bkR Y (n) (mkV true false 0 bt Y i j) 4) (40 + n) (mkV true false 1 bt (bkR Y (n) (mkV true false 0 bt Y i j) 4) i j) 4) (h0 := h78) hn hi hj ?_ 4 0 h78 _ _ _ _ _ _ rfl hS85 (KM_rf _) f87 f88 (by rw [bkR_0]; exact f89)
  intro h93 u94 u95 u96 u97 u98 u99 hS100 hF101 f102 f103 f104
  have f107 : h93 425 = .inl (1, 160, .inr (.inl (hwR H n (soB (G (6 * n)) (G (6 * n + 1))) 256))) := (hF101 425 (by decide)).trans f92
  have hF106 := KM_tr hF91 (KM_sb (by decide) hF101)
  refine r_iinc (y := 3) (ls' := [some (.ref 420), some (.int (nI s)), some (.int (nI i)), some (.int (nI j)), some (.int bt), some (.int le), some (.int no), some (.int (nI n)), some (.int 1), some (.int 0), some (.int 3), some (.int (nI 4)), u94, none, u95, none, u96, u97, none, u98, none, u99]) rfl dX12_makes_484 rfl (by decide) (Nat.le_of_ble_eq_true rfl) rfl ?_
  refine r_goto (pc' := 275) rfl dX12_makes_487 ?_
  refine r_iload rfl dX12_makes_275 rfl ?_
  refine r_iconst (v := 3) rfl dX12_makes_277 (by decide) ?_
  refine r_icmp_ge (tgt := 490) rfl rfl dX12_makes_278 (fun _ => ?_) (fun zc => absurd zc (by decide))
  refine r_aload_n rfl dX12_makes_490 rfl ?_
  refine r_dup rfl dX12_makes_491 rfl ?_
  refine r_getv 10 rfl dX12_makes_492 (show 2 ≤ 420 ∧ 420 < 434 by decide) f102 fl_X12_115 rfl ?_
  refine r_iconst (v := 1) rfl dX12_makes_495 (by decide) ?_
  refine r_iadd rfl dX12_makes_496 ?_
  refine r_eqi (y := nI (m + 1)) (show (nI m) + 1 = nI (m + 1) from nI_add m 1) ?_
  refine e_put 10 (fs' := [.int th, .long tr, .ref 421, .int ty, .int nx, .int tk, .int pl, .int va, .int fa, .int (nI c), .int (nI (m + 1)), .int ss, .int wg, .ref 422, .ref 423, .ref 424, .ref 425, .ref 426, .ref 427, .ref 428, .ref 429, .ref 430, .ref 431, .ref 432, .ref 433]) rfl dX12_makes_497 (show 2 ≤ 420 ∧ 420 < 434 by decide) hS100 hF106 (by decide) f102 (fp_X12_115 rfl _) (Nat.le_of_ble_eq_true rfl) rfl (fun h108 hS109 hF110 hN111 f112 => ?_)
  have f113 : h108 422 = .inl (0, 240, .inl G) := (hN111 422 (by decide)).trans f103
  have f114 : h108 425 = .inl (1, 160, .inr (.inl (hwR H n (soB (G (6 * n)) (G (6 * n + 1))) 256))) := (hN111 425 (by decide)).trans f107
  have f115 : h108 426 = .inl (1, 480, .inr (.inl (bkR (bkR (bkR Y (n) (mkV true false 0 bt Y i j) 4) (40 + n) (mkV true false 1 bt (bkR Y (n) (mkV true false 0 bt Y i j) 4) i j) 4) (80 + n) (mkV true false 2 bt (bkR (bkR Y (n) (mkV true false 0 bt Y i j) 4) (40 + n) (mkV true false 1 bt (bkR Y (n) (mkV true false 0 bt Y i j) 4) i j) 4) i j) 4))) := (hN111 426 (by decide)).trans f104
  refine r_iconst (v := 1) rfl dX12_makes_500 (by decide) ?_
  exact r_ret dX12_makes_501 (rt_z rfl (Or.inr rfl)) ⟨rfl, hS109, hF110, f112, f114, f115, rfl⟩
set_option maxRecDepth 20000 in
set_option maxHeartbeats 1000000 in
theorem z_mt01 {xs : Nat → Int32} {L d : Nat} {h : ev_H} {th : Int32} {tr : Int64} {ty nx tk pl va fa ss wg : Int32} {c m : Nat} {s i j n : Nat} {bt le no : Int32} {G : Nat → Int32} {H Y : Nat → Int64} (hS : SH h) (h5 : h 420 = .inr (12, [.int th, .long tr, .ref 421, .int ty, .int nx, .int tk, .int pl, .int va, .int fa, .int (nI c), .int (nI m), .int ss, .int wg, .ref 422, .ref 423, .ref 424, .ref 425, .ref 426, .ref 427, .ref 428, .ref 429, .ref 430, .ref 431, .ref 432, .ref 433])) (hc : c ≤ 16) (hm : m ≤ 24) (hn : n < 40) (hi : i < n) (hj : j < n) (h22 : h 422 = cI 240 G) (h25 : h 425 = cL 160 H) (h26 : h 426 = cL 480 Y) (ho : ltM G 1 c &&& bt = 0) (ht : ¬ ltM G 2 c &&& bt = 0) : EV xs L (d + 2) 0 0 M_X12_makes 434 h 230 [some (.ref 420), some (.int (nI s)), some (.int (nI i)), some (.int (nI j)), some (.int bt), some (.int le), some (.int no), some (.int (nI n)), none, none, none, none, none, none, none, none, none, none, none, none, none, none] [] (fun sz' h' r => sz' = 434 ∧ SH h' ∧ KM [420, 425, 426] h h' ∧ h' 420 = c420 th tr ty nx tk pl va fa (nI c) (nI (m + 1)) ss wg ∧ h' 425 = cL 160 (hwR H n (soB (G (6 * n)) (G (6 * n + 1))) 256) ∧ h' 426 = cL 480 (mkY false true bt Y n i j) ∧ r = [.int 1]) := by
  refine r_aload_n rfl dX12_makes_230 rfl ?_
  refine r_iload rfl dX12_makes_231 rfl ?_
  refine cl_X12_121 rfl rfl dX12_makes_233 (show 2 ≤ 420 ∧ 420 < 434 by decide).1 (show 2 ≤ 420 ∧ 420 < 434 by decide).2 h5 (Nat.le_of_ble_eq_true rfl) (z_X12_holding (i := n) hS (by omega) h5 h22 h25) ?_
  rintro _ h51 _ ⟨rfl, hS52, hk53, f54, rfl⟩
  have hF55 := KM_tr (KM_rf (Mod := [420, 425, 426]) h) (KM_sb (by decide) hk53)
  have f56 : h51 420 = .inr (12, [.int th, .long tr, .ref 421, .int ty, .int nx, .int tk, .int pl, .int va, .int fa, .int (nI c), .int (nI m), .int ss, .int wg, .ref 422, .ref 423, .ref 424, .ref 425, .ref 426, .ref 427, .ref 428, .ref 429, .ref 430, .ref 431, .ref 432, .ref 433]) := (hk53 420 (by decide)).trans h5
  have f57 : h51 422 = .inl (0, 240, .inl G) := (hk53 422 (by decide)).trans h22
  have f58 : h51 426 = .inl (1, 480, .inr (.inl Y)) := (hk53 426 (by decide)).trans h26
  refine r_aload_n rfl dX12_makes_236 rfl ?_
  refine r_iconst (v := 1) rfl dX12_makes_237 (by decide) ?_
  refine cl_X12_130 rfl rfl dX12_makes_238 (show 2 ≤ 420 ∧ 420 < 434 by decide).1 (show 2 ≤ 420 ∧ 420 < 434 by decide).2 f56 (Nat.le_of_ble_eq_true rfl) (y_X12_lettersOf hS52 f56 hc hm f57) ?_
  rintro _ h59 _ ⟨rfl, e60, rfl⟩
  replace e60 := e60.symm
  subst e60
  refine r_iload rfl dX12_makes_241 rfl ?_
  refine r_iand rfl dX12_makes_243 ?_
  refine r_if_eq (tgt := 251) rfl rfl dX12_makes_244 (fun _ => ?_) (fun zc => absurd ho zc)
  refine r_iconst (v := 0) rfl dX12_makes_251 (by decide) ?_
  refine r_istore (ls' := [some (.ref 420), some (.int (nI s)), some (.int (nI i)), some (.int (nI j)), some (.int bt), some (.int le), some (.int no), some (.int (nI n)), some (.int 0), none, none, none, none, none, none, none, none, none, none, none, none, none]) rfl dX12_makes_252 (Nat.le_of_ble_eq_true rfl) rfl ?_
  refine r_aload_n rfl dX12_makes_254 rfl ?_
  refine r_iconst (v := 2) rfl dX12_makes_255 (by decide) ?_
  refine cl_X12_130 rfl rfl dX12_makes_256 (show 2 ≤ 420 ∧ 420 < 434 by decide).1 (show 2 ≤ 420 ∧ 420 < 434 by decide).2 f56 (Nat.le_of_ble_eq_true rfl) (y_X12_lettersOf hS52 f56 hc hm f57) ?_
  rintro _ h61 _ ⟨rfl, e62, rfl⟩
  replace e62 := e62.symm
  subst e62
  refine r_iload rfl dX12_makes_259 rfl ?_
  refine r_iand rfl dX12_makes_261 ?_
  refine r_if_eq (tgt := 269) rfl rfl dX12_makes_262 (fun zc => absurd zc ht) (fun _ => ?_)
  refine r_iconst (v := 1) rfl dX12_makes_265 (by decide) ?_
  refine r_goto (pc' := 270) rfl dX12_makes_266 ?_
  refine r_istore (ls' := [some (.ref 420), some (.int (nI s)), some (.int (nI i)), some (.int (nI j)), some (.int bt), some (.int le), some (.int no), some (.int (nI n)), some (.int 0), some (.int 1), none, none, none, none, none, none, none, none, none, none, none, none]) rfl dX12_makes_270 (Nat.le_of_ble_eq_true rfl) rfl ?_
  refine r_iconst (v := 0) rfl dX12_makes_272 (by decide) ?_
  refine r_istore (ls' := [some (.ref 420), some (.int (nI s)), some (.int (nI i)), some (.int (nI j)), some (.int bt), some (.int le), some (.int no), some (.int (nI n)), some (.int 0), some (.int 1), some (.int 0), none, none, none, none, none, none, none, none, none, none, none]) rfl dX12_makes_273 (Nat.le_of_ble_eq_true rfl) rfl ?_
  refine r_iload rfl dX12_makes_275 rfl ?_
  refine r_iconst (v := 3) rfl dX12_makes_277 (by decide) ?_
  refine r_icmp_ge (tgt := 490) rfl rfl dX12_makes_278 (fun zc => absurd zc (by decide)) (fun _ => ?_)
  refine r_iconst (v := 0) rfl dX12_makes_281 (by decide) ?_
  refine r_istore (ls' := [some (.ref 420), some (.int (nI s)), some (.int (nI i)), some (.int (nI j)), some (.int bt), some (.int le), some (.int no), some (.int (nI n)), some (.int 0), some (.int 1), some (.int 0), some (.int 0), none, none, none, none, none, none, none, none, none, none]) rfl dX12_makes_282 (Nat.le_of_ble_eq_true rfl) rfl ?_
  refine z_mp010 (Y := Y) (h0 := h51) hn hi hj ?_ 4 0 h51 _ _ _ _ _ _ rfl hS52 (KM_rf _) f56 f57 (by rw [bkR_0]; exact f58)
  intro h63 u64 u65 u66 u67 u68 u69 hS70 hF71 f72 f73 f74
  have f77 : h63 425 = .inl (1, 160, .inr (.inl (hwR H n (soB (G (6 * n)) (G (6 * n + 1))) 256))) := (hF71 425 (by decide)).trans f54
  have hF76 := KM_tr hF55 (KM_sb (by decide) hF71)
  refine r_iinc (y := 1) (ls' := [some (.ref 420), some (.int (nI s)), some (.int (nI i)), some (.int (nI j)), some (.int bt), some (.int le), some (.int no), some (.int (nI n)), some (.int 0), some (.int 1), some (.int 1), some (.int (nI 4)), u64, none, u65, none, u66, u67, none, u68, none, u69]) rfl dX12_makes_484 rfl (by decide) (Nat.le_of_ble_eq_true rfl) rfl ?_
  refine r_goto (pc' := 275) rfl dX12_makes_487 ?_
  refine r_iload rfl dX12_makes_275 rfl ?_
  refine r_iconst (v := 3) rfl dX12_makes_277 (by decide) ?_
  refine r_icmp_ge (tgt := 490) rfl rfl dX12_makes_278 (fun zc => absurd zc (by decide)) (fun _ => ?_)
  refine r_iconst (v := 0) rfl dX12_makes_281 (by decide) ?_
  refine r_istore (ls' := [some (.ref 420), some (.int (nI s)), some (.int (nI i)), some (.int (nI j)), some (.int bt), some (.int le), some (.int no), some (.int (nI n)), some (.int 0), some (.int 1), some (.int 1), some (.int 0), u64, none, u65, none, u66, u67, none, u68, none, u69]) rfl dX12_makes_282 (Nat.le_of_ble_eq_true rfl) rfl ?_
  refine z_mp011 (Y := bkR Y (n) (mkV false true 0 bt Y i j) 4) (h0 := h63) hn hi hj ?_ 4 0 h63 _ _ _ _ _ _ rfl hS70 (KM_rf _) f72 f73 (by rw [bkR_0]; exact f74)
  intro h78 u79 u80 u81 u82 u83 u84 hS85 hF86 f87 f88 f89
  have f92 : h78 425 = .inl (1, 160, .inr (.inl (hwR H n (soB (G (6 * n)) (G (6 * n + 1))) 256))) := (hF86 425 (by decide)).trans f77
  have hF91 := KM_tr hF76 (KM_sb (by decide) hF86)
  refine r_iinc (y := 2) (ls' := [some (.ref 420), some (.int (nI s)), some (.int (nI i)), some (.int (nI j)), some (.int bt), some (.int le), some (.int no), some (.int (nI n)), some (.int 0), some (.int 1), some (.int 2), some (.int (nI 4)), u79, none, u80, none, u81, u82, none, u83, none, u84]) rfl dX12_makes_484 rfl (by decide) (Nat.le_of_ble_eq_true rfl) rfl ?_
  refine r_goto (pc' := 275) rfl dX12_makes_487 ?_
  refine r_iload rfl dX12_makes_275 rfl ?_
  refine r_iconst (v := 3) rfl dX12_makes_277 (by decide) ?_
  refine r_icmp_ge (tgt := 490) rfl rfl dX12_makes_278 (fun zc => absurd zc (by decide)) (fun _ => ?_)
  refine r_iconst (v := 0) rfl dX12_makes_281 (by decide) ?_
  refine r_istore (ls' := [some (.ref 420), some (.int (nI s)), some (.int (nI i)), some (.int (nI j)), some (.int bt), some (.int le), some (.int no), some (.int (nI n)), some (.int 0), some (.int 1), some (.int 2), some (.int 0), u79, none, u80, none, u81, u82, none, u83, none, u84]) rfl dX12_makes_282 (Nat.le_of_ble_eq_true rfl) rfl ?_
  refine z_mp012 (Y := bkR (bkR Y (n) (mkV false true 0 bt Y i j) 4) (40 + n) (mkV false true 1 bt (bkR Y (n) (mkV false true 0 bt Y i j) 4) i j) 4) (h0 := h78) hn hi hj ?_ 4 0 h78 _ _ _ _ _ _ rfl hS85 (KM_rf _) f87 f88 (by rw [bkR_0]; exact f89)
  intro h93 u94 u95 u96 u97 u98 u99 hS100 hF101 f102 f103 f104
  have f107 : h93 425 = .inl (1, 160, .inr (.inl (hwR H n (soB (G (6 * n)) (G (6 * n + 1))) 256))) := (hF101 425 (by decide)).trans f92
  have hF106 := KM_tr hF91 (KM_sb (by decide) hF101)
  refine r_iinc (y := 3) (ls' := [some (.ref 420), some (.int (nI s)), some (.int (nI i)), some (.int (nI j)), some (.int bt), some (.int le), some (.int no), some (.int (nI n)), some (.int 0), some (.int 1), some (.int 3), some (.int (nI 4)), u94, none, u95, none, u96, u97, none, u98, none, u99]) rfl dX12_makes_484 rfl (by decide) (Nat.le_of_ble_eq_true rfl) rfl ?_
  refine r_goto (pc' := 275) rfl dX12_makes_487 ?_
  refine r_iload rfl dX12_makes_275 rfl ?_
  refine r_iconst (v := 3) rfl dX12_makes_277 (by decide) ?_
  refine r_icmp_ge (tgt := 490) rfl rfl dX12_makes_278 (fun _ => ?_) (fun zc => absurd zc (by decide))
  refine r_aload_n rfl dX12_makes_490 rfl ?_
  refine r_dup rfl dX12_makes_491 rfl ?_
  refine r_getv 10 rfl dX12_makes_492 (show 2 ≤ 420 ∧ 420 < 434 by decide) f102 fl_X12_115 rfl ?_
  refine r_iconst (v := 1) rfl dX12_makes_495 (by decide) ?_
  refine r_iadd rfl dX12_makes_496 ?_
  refine r_eqi (y := nI (m + 1)) (show (nI m) + 1 = nI (m + 1) from nI_add m 1) ?_
  refine e_put 10 (fs' := [.int th, .long tr, .ref 421, .int ty, .int nx, .int tk, .int pl, .int va, .int fa, .int (nI c), .int (nI (m + 1)), .int ss, .int wg, .ref 422, .ref 423, .ref 424, .ref 425, .ref 426, .ref 427, .ref 428, .ref 429, .ref 430, .ref 431, .ref 432, .ref 433]) rfl dX12_makes_497 (show 2 ≤ 420 ∧ 420 < 434 by decide) hS100 hF106 (by decide) f102 (fp_X12_115 rfl _) (Nat.le_of_ble_eq_true rfl) rfl (fun h108 hS109 hF110 hN111 f112 => ?_)
  have f113 : h108 422 = .inl (0, 240, .inl G) := (hN111 422 (by decide)).trans f103
  have f114 : h108 425 = .inl (1, 160, .inr (.inl (hwR H n (soB (G (6 * n)) (G (6 * n + 1))) 256))) := (hN111 425 (by decide)).trans f107
  have f115 : h108 426 = .inl (1, 480, .inr (.inl (bkR (bkR (bkR Y (n) (mkV false true 0 bt Y i j) 4) (40 + n) (mkV false true 1 bt (bkR Y (n) (mkV false true 0 bt Y i j) 4) i j) 4) (80 + n) (mkV false true 2 bt (bkR (bkR Y (n) (mkV false true 0 bt Y i j) 4) (40 + n) (mkV false true 1 bt (bkR Y (n) (mkV false true 0 bt Y i j) 4) i j) 4) i j) 4))) := (hN111 426 (by decide)).trans f104
  refine r_iconst (v := 1) rfl dX12_makes_500 (by decide) ?_
  exact r_ret dX12_makes_501 (rt_z rfl (Or.inr rfl)) ⟨rfl, hS109, hF110, f112, f114, f115, rfl⟩
set_option maxRecDepth 20000 in
set_option maxHeartbeats 1000000 in
theorem z_mt00 {xs : Nat → Int32} {L d : Nat} {h : ev_H} {th : Int32} {tr : Int64} {ty nx tk pl va fa ss wg : Int32} {c m : Nat} {s i j n : Nat} {bt le no : Int32} {G : Nat → Int32} {H Y : Nat → Int64} (hS : SH h) (h5 : h 420 = .inr (12, [.int th, .long tr, .ref 421, .int ty, .int nx, .int tk, .int pl, .int va, .int fa, .int (nI c), .int (nI m), .int ss, .int wg, .ref 422, .ref 423, .ref 424, .ref 425, .ref 426, .ref 427, .ref 428, .ref 429, .ref 430, .ref 431, .ref 432, .ref 433])) (hc : c ≤ 16) (hm : m ≤ 24) (hn : n < 40) (hi : i < n) (hj : j < n) (h22 : h 422 = cI 240 G) (h25 : h 425 = cL 160 H) (h26 : h 426 = cL 480 Y) (ho : ltM G 1 c &&& bt = 0) (ht : ltM G 2 c &&& bt = 0) : EV xs L (d + 2) 0 0 M_X12_makes 434 h 230 [some (.ref 420), some (.int (nI s)), some (.int (nI i)), some (.int (nI j)), some (.int bt), some (.int le), some (.int no), some (.int (nI n)), none, none, none, none, none, none, none, none, none, none, none, none, none, none] [] (fun sz' h' r => sz' = 434 ∧ SH h' ∧ KM [420, 425, 426] h h' ∧ h' 420 = c420 th tr ty nx tk pl va fa (nI c) (nI (m + 1)) ss wg ∧ h' 425 = cL 160 (hwR H n (soB (G (6 * n)) (G (6 * n + 1))) 256) ∧ h' 426 = cL 480 (mkY false false bt Y n i j) ∧ r = [.int 1]) := by
  refine r_aload_n rfl dX12_makes_230 rfl ?_
  refine r_iload rfl dX12_makes_231 rfl ?_
  refine cl_X12_121 rfl rfl dX12_makes_233 (show 2 ≤ 420 ∧ 420 < 434 by decide).1 (show 2 ≤ 420 ∧ 420 < 434 by decide).2 h5 (Nat.le_of_ble_eq_true rfl) (z_X12_holding (i := n) hS (by omega) h5 h22 h25) ?_
  rintro _ h51 _ ⟨rfl, hS52, hk53, f54, rfl⟩
  have hF55 := KM_tr (KM_rf (Mod := [420, 425, 426]) h) (KM_sb (by decide) hk53)
  have f56 : h51 420 = .inr (12, [.int th, .long tr, .ref 421, .int ty, .int nx, .int tk, .int pl, .int va, .int fa, .int (nI c), .int (nI m), .int ss, .int wg, .ref 422, .ref 423, .ref 424, .ref 425, .ref 426, .ref 427, .ref 428, .ref 429, .ref 430, .ref 431, .ref 432, .ref 433]) := (hk53 420 (by decide)).trans h5
  have f57 : h51 422 = .inl (0, 240, .inl G) := (hk53 422 (by decide)).trans h22
  have f58 : h51 426 = .inl (1, 480, .inr (.inl Y)) := (hk53 426 (by decide)).trans h26
  refine r_aload_n rfl dX12_makes_236 rfl ?_
  refine r_iconst (v := 1) rfl dX12_makes_237 (by decide) ?_
  refine cl_X12_130 rfl rfl dX12_makes_238 (show 2 ≤ 420 ∧ 420 < 434 by decide).1 (show 2 ≤ 420 ∧ 420 < 434 by decide).2 f56 (Nat.le_of_ble_eq_true rfl) (y_X12_lettersOf hS52 f56 hc hm f57) ?_
  rintro _ h59 _ ⟨rfl, e60, rfl⟩
  replace e60 := e60.symm
  subst e60
  refine r_iload rfl dX12_makes_241 rfl ?_
  refine r_iand rfl dX12_makes_243 ?_
  refine r_if_eq (tgt := 251) rfl rfl dX12_makes_244 (fun _ => ?_) (fun zc => absurd ho zc)
  refine r_iconst (v := 0) rfl dX12_makes_251 (by decide) ?_
  refine r_istore (ls' := [some (.ref 420), some (.int (nI s)), some (.int (nI i)), some (.int (nI j)), some (.int bt), some (.int le), some (.int no), some (.int (nI n)), some (.int 0), none, none, none, none, none, none, none, none, none, none, none, none, none]) rfl dX12_makes_252 (Nat.le_of_ble_eq_true rfl) rfl ?_
  refine r_aload_n rfl dX12_makes_254 rfl ?_
  refine r_iconst (v := 2) rfl dX12_makes_255 (by decide) ?_
  refine cl_X12_130 rfl rfl dX12_makes_256 (show 2 ≤ 420 ∧ 420 < 434 by decide).1 (show 2 ≤ 420 ∧ 420 < 434 by decide).2 f56 (Nat.le_of_ble_eq_true rfl) (y_X12_lettersOf hS52 f56 hc hm f57) ?_
  rintro _ h61 _ ⟨rfl, e62, rfl⟩
  replace e62 := e62.symm
  subst e62
  refine r_iload rfl dX12_makes_259 rfl ?_
  refine r_iand rfl dX12_makes_261 ?_
  refine r_if_eq (tgt := 269) rfl rfl dX12_makes_262 (fun _ => ?_) (fun zc => absurd ht zc)
  refine r_iconst (v := 0) rfl dX12_makes_269 (by decide) ?_
  refine r_istore (ls' := [some (.ref 420), some (.int (nI s)), some (.int (nI i)), some (.int (nI j)), some (.int bt), some (.int le), some (.int no), some (.int (nI n)), some (.int 0), some (.int 0), none, none, none, none, none, none, none, none, none, none, none, none]) rfl dX12_makes_270 (Nat.le_of_ble_eq_true rfl) rfl ?_
  refine r_iconst (v := 0) rfl dX12_makes_272 (by decide) ?_
  refine r_istore (ls' := [some (.ref 420), some (.int (nI s)), some (.int (nI i)), some (.int (nI j)), some (.int bt), some (.int le), some (.int no), some (.int (nI n)), some (.int 0), some (.int 0), some (.int 0), none, none, none, none, none, none, none, none, none, none, none]) rfl dX12_makes_273 (Nat.le_of_ble_eq_true rfl) rfl ?_
  refine r_iload rfl dX12_makes_275 rfl ?_
  refine r_iconst (v := 3) rfl dX12_makes_277 (by decide) ?_
  refine r_icmp_ge (tgt := 490) rfl rfl dX12_makes_278 (fun zc => absurd zc (by decide)) (fun _ => ?_)
  refine r_iconst (v := 0) rfl dX12_makes_281 (by decide) ?_
  refine r_istore (ls' := [some (.ref 420), some (.int (nI s)), some (.int (nI i)), some (.int (nI j)), some (.int bt), some (.int le), some (.int no), some (.int (nI n)), some (.int 0), some (.int 0), some (.int 0), some (.int 0), none, none, none, none, none, none, none, none, none, none]) rfl dX12_makes_282 (Nat.le_of_ble_eq_true rfl) rfl ?_
  refine z_mp000 (Y := Y) (h0 := h51) hn hi hj ?_ 4 0 h51 _ _ _ _ _ _ rfl hS52 (KM_rf _) f56 f57 (by rw [bkR_0]; exact f58)
  intro h63 u64 u65 u66 u67 u68 u69 hS70 hF71 f72 f73 f74
  have f77 : h63 425 = .inl (1, 160, .inr (.inl (hwR H n (soB (G (6 * n)) (G (6 * n + 1))) 256))) := (hF71 425 (by decide)).trans f54
  have hF76 := KM_tr hF55 (KM_sb (by decide) hF71)
  refine r_iinc (y := 1) (ls' := [some (.ref 420), some (.int (nI s)), some (.int (nI i)), some (.int (nI j)), some (.int bt), some (.int le), some (.int no), some (.int (nI n)), some (.int 0), some (.int 0), some (.int 1), some (.int (nI 4)), u64, none, u65, none, u66, u67, none, u68, none, u69]) rfl dX12_makes_484 rfl (by decide) (Nat.le_of_ble_eq_true rfl) rfl ?_
  refine r_goto (pc' := 275) rfl dX12_makes_487 ?_
  refine r_iload rfl dX12_makes_275 rfl ?_
  refine r_iconst (v := 3) rfl dX12_makes_277 (by decide) ?_
  refine r_icmp_ge (tgt := 490) rfl rfl dX12_makes_278 (fun zc => absurd zc (by decide)) (fun _ => ?_)
  refine r_iconst (v := 0) rfl dX12_makes_281 (by decide) ?_
  refine r_istore (ls' := [some (.ref 420), some (.int (nI s)), some (.int (nI i)), some (.int (nI j)), some (.int bt), some (.int le), some (.int no), some (.int (nI n)), some (.int 0), some (.int 0), some (.int 1), some (.int 0), u64, none, u65, none, u66, u67, none, u68, none, u69]) rfl dX12_makes_282 (Nat.le_of_ble_eq_true rfl) rfl ?_
  refine z_mp001 (Y := bkR Y (n) (mkV false false 0 bt Y i j) 4) (h0 := h63) hn hi hj ?_ 4 0 h63 _ _ _ _ _ _ rfl hS70 (KM_rf _) f72 f73 (by rw [bkR_0]; exact f74)
  intro h78 u79 u80 u81 u82 u83 u84 hS85 hF86 f87 f88 f89
  have f92 : h78 425 = .inl (1, 160, .inr (.inl (hwR H n (soB (G (6 * n)) (G (6 * n + 1))) 256))) := (hF86 425 (by decide)).trans f77
  have hF91 := KM_tr hF76 (KM_sb (by decide) hF86)
  refine r_iinc (y := 2) (ls' := [some (.ref 420), some (.int (nI s)), some (.int (nI i)), some (.int (nI j)), some (.int bt), some (.int le), some (.int no), some (.int (nI n)), some (.int 0), some (.int 0), some (.int 2), some (.int (nI 4)), u79, none, u80, none, u81, u82, none, u83, none, u84]) rfl dX12_makes_484 rfl (by decide) (Nat.le_of_ble_eq_true rfl) rfl ?_
  refine r_goto (pc' := 275) rfl dX12_makes_487 ?_
  refine r_iload rfl dX12_makes_275 rfl ?_
  refine r_iconst (v := 3) rfl dX12_makes_277 (by decide) ?_
  refine r_icmp_ge (tgt := 490) rfl rfl dX12_makes_278 (fun zc => absurd zc (by decide)) (fun _ => ?_)
  refine r_iconst (v := 0) rfl dX12_makes_281 (by decide) ?_
  refine r_istore (ls' := [some (.ref 420), some (.int (nI s)), some (.int (nI i)), some (.int (nI j)), some (.int bt), some (.int le), some (.int no), some (.int (nI n)), some (.int 0), some (.int 0), some (.int 2), some (.int 0), u79, none, u80, none, u81, u82, none, u83, none, u84]) rfl dX12_makes_282 (Nat.le_of_ble_eq_true rfl) rfl ?_
  refine z_mp002 (Y := bkR (bkR Y (n) (mkV false false 0 bt Y i j) 4) (40 + n) (mkV false false 1 bt (bkR Y (n) (mkV false false 0 bt Y i j) 4) i j) 4) (h0 := h78) hn hi hj ?_ 4 0 h78 _ _ _ _ _ _ rfl hS85 (KM_rf _) f87 f88 (by rw [bkR_0]; exact f89)
  intro h93 u94 u95 u96 u97 u98 u99 hS100 hF101 f102 f103 f104
  have f107 : h93 425 = .inl (1, 160, .inr (.inl (hwR H n (soB (G (6 * n)) (G (6 * n + 1))) 256))) := (hF101 425 (by decide)).trans f92
  have hF106 := KM_tr hF91 (KM_sb (by decide) hF101)
  refine r_iinc (y := 3) (ls' := [some (.ref 420), some (.int (nI s)), some (.int (nI i)), some (.int (nI j)), some (.int bt), some (.int le), some (.int no), some (.int (nI n)), some (.int 0), some (.int 0), some (.int 3), some (.int (nI 4)), u94, none, u95, none, u96, u97, none, u98, none, u99]) rfl dX12_makes_484 rfl (by decide) (Nat.le_of_ble_eq_true rfl) rfl ?_
  refine r_goto (pc' := 275) rfl dX12_makes_487 ?_
  refine r_iload rfl dX12_makes_275 rfl ?_
  refine r_iconst (v := 3) rfl dX12_makes_277 (by decide) ?_
  refine r_icmp_ge (tgt := 490) rfl rfl dX12_makes_278 (fun _ => ?_) (fun zc => absurd zc (by decide))
  refine r_aload_n rfl dX12_makes_490 rfl ?_
  refine r_dup rfl dX12_makes_491 rfl ?_
  refine r_getv 10 rfl dX12_makes_492 (show 2 ≤ 420 ∧ 420 < 434 by decide) f102 fl_X12_115 rfl ?_
  refine r_iconst (v := 1) rfl dX12_makes_495 (by decide) ?_
  refine r_iadd rfl dX12_makes_496 ?_
  refine r_eqi (y := nI (m + 1)) (show (nI m) + 1 = nI (m + 1) from nI_add m 1) ?_
  refine e_put 10 (fs' := [.int th, .long tr, .ref 421, .int ty, .int nx, .int tk, .int pl, .int va, .int fa, .int (nI c), .int (nI (m + 1)), .int ss, .int wg, .ref 422, .ref 423, .ref 424, .ref 425, .ref 426, .ref 427, .ref 428, .ref 429, .ref 430, .ref 431, .ref 432, .ref 433]) rfl dX12_makes_497 (show 2 ≤ 420 ∧ 420 < 434 by decide) hS100 hF106 (by decide) f102 (fp_X12_115 rfl _) (Nat.le_of_ble_eq_true rfl) rfl (fun h108 hS109 hF110 hN111 f112 => ?_)
  have f113 : h108 422 = .inl (0, 240, .inl G) := (hN111 422 (by decide)).trans f103
  have f114 : h108 425 = .inl (1, 160, .inr (.inl (hwR H n (soB (G (6 * n)) (G (6 * n + 1))) 256))) := (hN111 425 (by decide)).trans f107
  have f115 : h108 426 = .inl (1, 480, .inr (.inl (bkR (bkR (bkR Y (n) (mkV false false 0 bt Y i j) 4) (40 + n) (mkV false false 1 bt (bkR Y (n) (mkV false false 0 bt Y i j) 4) i j) 4) (80 + n) (mkV false false 2 bt (bkR (bkR Y (n) (mkV false false 0 bt Y i j) 4) (40 + n) (mkV false false 1 bt (bkR Y (n) (mkV false false 0 bt Y i j) 4) i j) 4) i j) 4))) := (hN111 426 (by decide)).trans f104
  refine r_iconst (v := 1) rfl dX12_makes_500 (by decide) ?_
  exact r_ret dX12_makes_501 (rt_z rfl (Or.inr rfl)) ⟨rfl, hS109, hF110, f112, f114, f115, rfl⟩
theorem z_makes_tail {xs : Nat → Int32} {L d : Nat} {h : ev_H} {th : Int32} {tr : Int64} {ty nx tk pl va fa ss wg : Int32} {c m : Nat} {s i j n : Nat} {bt le no : Int32} {G : Nat → Int32} {H Y : Nat → Int64} (hS : SH h) (h5 : h 420 = .inr (12, [.int th, .long tr, .ref 421, .int ty, .int nx, .int tk, .int pl, .int va, .int fa, .int (nI c), .int (nI m), .int ss, .int wg, .ref 422, .ref 423, .ref 424, .ref 425, .ref 426, .ref 427, .ref 428, .ref 429, .ref 430, .ref 431, .ref 432, .ref 433])) (hc : c ≤ 16) (hm : m ≤ 24) (hn : n < 40) (hi : i < n) (hj : j < n) (h22 : h 422 = cI 240 G) (h25 : h 425 = cL 160 H) (h26 : h 426 = cL 480 Y) : EV xs L (d + 2) 0 0 M_X12_makes 434 h 230 [some (.ref 420), some (.int (nI s)), some (.int (nI i)), some (.int (nI j)), some (.int bt), some (.int le), some (.int no), some (.int (nI n)), none, none, none, none, none, none, none, none, none, none, none, none, none, none] [] (fun sz' h' r => sz' = 434 ∧ SH h' ∧ KM [420, 425, 426] h h' ∧ h' 420 = c420 th tr ty nx tk pl va fa (nI c) (nI (m + 1)) ss wg ∧ h' 425 = cL 160 (hwR H n (soB (G (6 * n)) (G (6 * n + 1))) 256) ∧ h' 426 = cL 480 (mkY (decide (¬ ltM G 1 c &&& bt = 0)) (decide (¬ ltM G 2 c &&& bt = 0)) bt Y n i j) ∧ r = [.int 1]) := by
  by_cases ho : ltM G 1 c &&& bt = 0
  · rw [show decide (¬ ltM G 1 c &&& bt = 0) = false from decide_eq_false (fun z => z ho)]
    by_cases ht : ltM G 2 c &&& bt = 0
    · rw [show decide (¬ ltM G 2 c &&& bt = 0) = false from decide_eq_false (fun z => z ht)]
      exact z_mt00 hS h5 hc hm hn hi hj h22 h25 h26 ho ht
    · rw [show decide (¬ ltM G 2 c &&& bt = 0) = true from decide_eq_true ht]
      exact z_mt01 hS h5 hc hm hn hi hj h22 h25 h26 ho ht
  · rw [show decide (¬ ltM G 1 c &&& bt = 0) = true from decide_eq_true ho]
    by_cases ht : ltM G 2 c &&& bt = 0
    · rw [show decide (¬ ltM G 2 c &&& bt = 0) = false from decide_eq_false (fun z => z ht)]
      exact z_mt10 hS h5 hc hm hn hi hj h22 h25 h26 ho ht
    · rw [show decide (¬ ltM G 2 c &&& bt = 0) = true from decide_eq_true ht]
      exact z_mt11 hS h5 hc hm hn hi hj h22 h25 h26 ho ht
