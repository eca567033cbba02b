set_option maxRecDepth 20000 in
set_option maxHeartbeats 1000000 in
theorem v_X3_rememberCut {xs : Nat → Int32} {L d : Nat} {h : ev_H} {i : Nat} {p t o a b l : Int32} {x y z : Int32} (hS : SH h) (hi : i < 40) (fl : h (100 + 8 * i) = cLn i p t o a b l) : EV xs L (d + 0) 0 0 M_X3_rememberCut 434 h 0 [some (.ref (100 + 8 * i)), some (.int x), some (.int y), some (.int z)] [] (fun sz' h' r => sz' = 434 ∧ SH h' ∧ KX [100 + 8 * i] h h' ∧ KM [100 + 8 * i] h h' ∧ h' (100 + 8 * i) = cLn i p t 0 x y z ∧ r = []) := by
  refine r_aload_n rfl dX3_rememberCut_0 rfl ?_
  refine r_iconst (v := 0) rfl dX3_rememberCut_1 (by decide) ?_
  refine e_put 3 (fs' := [.ref (101 + 8 * i), .int p, .int t, .int 0, .int a, .int b, .int l]) rfl dX3_rememberCut_2 (show 2 ≤ 100 + 8 * i ∧ 100 + 8 * i < 434 by omega) hS (KM_rf (Mod := [100 + 8 * i]) _) (List.mem_singleton.mpr rfl) fl (fp_X3_34 rfl _) (Nat.le_of_ble_eq_true rfl) rfl (fun h51 hS52 _ hN53 f54 => ?_)
  have hk55 : KX [100 + 8 * i] h h51 := KX_M (fun _ z => z) hN53
  have hF56 := KX_tr (KX_rf (l := [100 + 8 * i]) h) (KX_sb (l := [100 + 8 * i]) (by first | decide | exact fun _ z => z | simp) hk55)
  have km57 := KM_tr (KM_rf (Mod := [100 + 8 * i]) h) hN53
  refine r_aload_n rfl dX3_rememberCut_5 rfl ?_
  refine r_iload_n rfl dX3_rememberCut_6 rfl ?_
  refine e_put 4 (fs' := [.ref (101 + 8 * i), .int p, .int t, .int 0, .int x, .int b, .int l]) rfl dX3_rememberCut_7 (show 2 ≤ 100 + 8 * i ∧ 100 + 8 * i < 434 by omega) hS52 (KM_rf (Mod := [100 + 8 * i]) _) (List.mem_singleton.mpr rfl) f54 (fp_X3_17 rfl _) (Nat.le_of_ble_eq_true rfl) rfl (fun h58 hS59 _ hN60 f61 => ?_)
  have hk62 : KX [100 + 8 * i] h51 h58 := KX_M (fun _ z => z) hN60
  have hF63 := KX_tr hF56 (KX_sb (l := [100 + 8 * i]) (by first | decide | exact fun _ z => z | simp) hk62)
  have km64 := KM_tr km57 hN60
  refine r_aload_n rfl dX3_rememberCut_10 rfl ?_
  refine r_iload_n rfl dX3_rememberCut_11 rfl ?_
  refine e_put 5 (fs' := [.ref (101 + 8 * i), .int p, .int t, .int 0, .int x, .int y, .int l]) rfl dX3_rememberCut_12 (show 2 ≤ 100 + 8 * i ∧ 100 + 8 * i < 434 by omega) hS59 (KM_rf (Mod := [100 + 8 * i]) _) (List.mem_singleton.mpr rfl) f61 (fp_X3_21 rfl _) (Nat.le_of_ble_eq_true rfl) rfl (fun h65 hS66 _ hN67 f68 => ?_)
  have hk69 : KX [100 + 8 * i] h58 h65 := KX_M (fun _ z => z) hN67
  have hF70 := KX_tr hF63 (KX_sb (l := [100 + 8 * i]) (by first | decide | exact fun _ z => z | simp) hk69)
  have km71 := KM_tr km64 hN67
  refine r_aload_n rfl dX3_rememberCut_15 rfl ?_
  refine r_iload_n rfl dX3_rememberCut_16 rfl ?_
  refine e_put 6 (fs' := [.ref (101 + 8 * i), .int p, .int t, .int 0, .int x, .int y, .int z]) rfl dX3_rememberCut_17 (show 2 ≤ 100 + 8 * i ∧ 100 + 8 * i < 434 by omega) hS66 (KM_rf (Mod := [100 + 8 * i]) _) (List.mem_singleton.mpr rfl) f68 (fp_X3_24 rfl _) (Nat.le_of_ble_eq_true rfl) rfl (fun h72 hS73 _ hN74 f75 => ?_)
  have hk76 : KX [100 + 8 * i] h65 h72 := KX_M (fun _ z => z) hN74
  have hF77 := KX_tr hF70 (KX_sb (l := [100 + 8 * i]) (by first | decide | exact fun _ z => z | simp) hk76)
  have km78 := KM_tr km71 hN74
  exact r_ret dX3_rememberCut_20 (rt_v rfl) ⟨rfl, hS73, hF77, km78, f75, rfl⟩
set_option maxRecDepth 20000 in
set_option maxHeartbeats 1000000 in
theorem v_X3_becomeCut {xs : Nat → Int32} {L d : Nat} {h : ev_H} {i j m : Nat} {p t o a b l p1 t1 o1 a1 b1 l1 p2 t2 o2 a2 b2 l2 c : Int32} (hS : SH h) (hi : i < 40) (fl : h (100 + 8 * i) = cLn i p t o a b l) (hj : j < 40) (hm : m < 40) (fj : h (100 + 8 * j) = cLn j p1 t1 o1 a1 b1 l1) (fm : h (100 + 8 * m) = cLn m p2 t2 o2 a2 b2 l2) (hij : i ≠ j) (him : i ≠ m) : EV xs L (d + 0) 0 0 M_X3_becomeCut 434 h 0 [some (.ref (100 + 8 * i)), some (.ref (100 + 8 * j)), some (.ref (100 + 8 * m)), some (.int c), none, none, none] [] (fun sz' h' r => sz' = 434 ∧ SH h' ∧ KX [100 + 8 * i] h h' ∧ KM [100 + 8 * i] h h' ∧ ((cutK p1 t1 p2 t2 (1 <<< (c &&& 31)) ∧ h' (100 + 8 * i) = cLn i (cutP p1 p2 (1 <<< (c &&& 31))) (cutT t1 t2 (1 <<< (c &&& 31))) o a b l ∧ r = [.int 1]) ∨ (¬ cutK p1 t1 p2 t2 (1 <<< (c &&& 31)) ∧ h' (100 + 8 * i) = cLn i p t o a b l ∧ r = [.int 0]))) := by
  refine r_iconst (v := 1) rfl dX3_becomeCut_0 (by decide) ?_
  refine r_iload_n rfl dX3_becomeCut_1 rfl ?_
  refine r_ishl rfl dX3_becomeCut_2 ?_
  refine r_topi (fun x51 e52 => ?_)
  refine r_istore (ls' := [some (.ref (100 + 8 * i)), some (.ref (100 + 8 * j)), some (.ref (100 + 8 * m)), some (.int c), some (.int x51), none, none]) rfl dX3_becomeCut_3 (Nat.le_of_ble_eq_true rfl) rfl ?_
  refine r_aload_n rfl dX3_becomeCut_5 rfl ?_
  refine r_getv 1 rfl dX3_becomeCut_6 (show 2 ≤ 100 + 8 * j ∧ 100 + 8 * j < 434 by omega) fj fl_X3_28 rfl ?_
  refine r_iload rfl dX3_becomeCut_9 rfl ?_
  refine r_iand rfl dX3_becomeCut_11 ?_
  refine r_if_eq (tgt := 25) rfl rfl dX3_becomeCut_12 (fun c53 => ?_) (fun c53 => ?_)
  · refine r_iconst (v := 0) rfl dX3_becomeCut_25 (by decide) ?_
    subst e52
    exact r_ret dX3_becomeCut_26 (rt_z rfl (Or.inl rfl)) ⟨rfl, hS, (KX_rf (l := [100 + 8 * i]) h), (KM_rf (Mod := [100 + 8 * i]) h), Or.inr ⟨fun z => z.1 c53, fl, rfl⟩⟩
  · refine r_aload_n rfl dX3_becomeCut_15 rfl ?_
    refine r_getv 2 rfl dX3_becomeCut_16 (show 2 ≤ 100 + 8 * m ∧ 100 + 8 * m < 434 by omega) fm fl_X3_31 rfl ?_
    refine r_iload rfl dX3_becomeCut_19 rfl ?_
    refine r_iand rfl dX3_becomeCut_21 ?_
    refine r_if_ne (tgt := 27) rfl rfl dX3_becomeCut_22 (fun c54 => ?_) (fun c54 => ?_)
    · refine r_aload_n rfl dX3_becomeCut_27 rfl ?_
      refine r_getv 1 rfl dX3_becomeCut_28 (show 2 ≤ 100 + 8 * j ∧ 100 + 8 * j < 434 by omega) fj fl_X3_28 rfl ?_
      refine r_iload rfl dX3_becomeCut_31 rfl ?_
      refine r_iconst (v := (-1)) rfl dX3_becomeCut_33 (by decide) ?_
      refine r_ixor rfl dX3_becomeCut_34 ?_
      refine r_iand rfl dX3_becomeCut_35 ?_
      refine r_aload_n rfl dX3_becomeCut_36 rfl ?_
      refine r_getv 1 rfl dX3_becomeCut_37 (show 2 ≤ 100 + 8 * m ∧ 100 + 8 * m < 434 by omega) fm fl_X3_28 rfl ?_
      refine r_ior rfl dX3_becomeCut_40 ?_
      refine r_topi (fun x55 e56 => ?_)
      refine r_istore (ls' := [some (.ref (100 + 8 * i)), some (.ref (100 + 8 * j)), some (.ref (100 + 8 * m)), some (.int c), some (.int x51), some (.int x55), none]) rfl dX3_becomeCut_41 (Nat.le_of_ble_eq_true rfl) rfl ?_
      refine r_aload_n rfl dX3_becomeCut_43 rfl ?_
      refine r_getv 2 rfl dX3_becomeCut_44 (show 2 ≤ 100 + 8 * j ∧ 100 + 8 * j < 434 by omega) fj fl_X3_31 rfl ?_
      refine r_aload_n rfl dX3_becomeCut_47 rfl ?_
      refine r_getv 2 rfl dX3_becomeCut_48 (show 2 ≤ 100 + 8 * m ∧ 100 + 8 * m < 434 by omega) fm fl_X3_31 rfl ?_
      refine r_iload rfl dX3_becomeCut_51 rfl ?_
      refine r_iconst (v := (-1)) rfl dX3_becomeCut_53 (by decide) ?_
      refine r_ixor rfl dX3_becomeCut_54 ?_
      refine r_iand rfl dX3_becomeCut_55 ?_
      refine r_ior rfl dX3_becomeCut_56 ?_
      refine r_topi (fun x57 e58 => ?_)
      refine r_istore (ls' := [some (.ref (100 + 8 * i)), some (.ref (100 + 8 * j)), some (.ref (100 + 8 * m)), some (.int c), some (.int x51), some (.int x55), some (.int x57)]) rfl dX3_becomeCut_57 (Nat.le_of_ble_eq_true rfl) rfl ?_
      refine r_iload rfl dX3_becomeCut_59 rfl ?_
      refine r_iload rfl dX3_becomeCut_61 rfl ?_
      refine r_iand rfl dX3_becomeCut_63 ?_
      refine r_if_eq (tgt := 69) rfl rfl dX3_becomeCut_64 (fun c59 => ?_) (fun c59 => ?_)
      · refine r_aload_n rfl dX3_becomeCut_69 rfl ?_
        refine r_iload rfl dX3_becomeCut_70 rfl ?_
        refine e_put 1 (fs' := [.ref (101 + 8 * i), .int x55, .int t, .int o, .int a, .int b, .int l]) rfl dX3_becomeCut_72 (show 2 ≤ 100 + 8 * i ∧ 100 + 8 * i < 434 by omega) hS (KM_rf (Mod := [100 + 8 * i]) _) (List.mem_singleton.mpr rfl) fl (fp_X3_28 rfl _) (Nat.le_of_ble_eq_true rfl) rfl (fun h60 hS61 _ hN62 f63 => ?_)
        have hk64 : KX [100 + 8 * i] h h60 := KX_M (fun _ z => z) hN62
        have hF65 := KX_tr (KX_rf (l := [100 + 8 * i]) h) (KX_sb (l := [100 + 8 * i]) (by first | decide | exact fun _ z => z | simp) hk64)
        have f66 : h60 (100 + 8 * j) = .inr (3, [.ref (101 + 8 * j), .int p1, .int t1, .int o1, .int a1, .int b1, .int l1]) := (hk64 _ (by simp <;> omega) (nSP_ln (i := j) (by omega))).trans fj
        have f67 : h60 (100 + 8 * m) = .inr (3, [.ref (101 + 8 * m), .int p2, .int t2, .int o2, .int a2, .int b2, .int l2]) := (hk64 _ (by simp <;> omega) (nSP_ln (i := m) (by omega))).trans fm
        have km68 := KM_tr (KM_rf (Mod := [100 + 8 * i]) h) hN62
        refine r_aload_n rfl dX3_becomeCut_75 rfl ?_
        refine r_iload rfl dX3_becomeCut_76 rfl ?_
        refine e_put 2 (fs' := [.ref (101 + 8 * i), .int x55, .int x57, .int o, .int a, .int b, .int l]) rfl dX3_becomeCut_78 (show 2 ≤ 100 + 8 * i ∧ 100 + 8 * i < 434 by omega) hS61 (KM_rf (Mod := [100 + 8 * i]) _) (List.mem_singleton.mpr rfl) f63 (fp_X3_31 rfl _) (Nat.le_of_ble_eq_true rfl) rfl (fun h69 hS70 _ hN71 f72 => ?_)
        have hk73 : KX [100 + 8 * i] h60 h69 := KX_M (fun _ z => z) hN71
        have hF74 := KX_tr hF65 (KX_sb (l := [100 + 8 * i]) (by first | decide | exact fun _ z => z | simp) hk73)
        have f75 : h69 (100 + 8 * j) = .inr (3, [.ref (101 + 8 * j), .int p1, .int t1, .int o1, .int a1, .int b1, .int l1]) := (hk73 _ (by simp <;> omega) (nSP_ln (i := j) (by omega))).trans f66
        have f76 : h69 (100 + 8 * m) = .inr (3, [.ref (101 + 8 * m), .int p2, .int t2, .int o2, .int a2, .int b2, .int l2]) := (hk73 _ (by simp <;> omega) (nSP_ln (i := m) (by omega))).trans f67
        have km77 := KM_tr km68 hN71
        refine r_iconst (v := 1) rfl dX3_becomeCut_81 (by decide) ?_
        subst e58
        subst e56
        subst e52
        exact r_ret dX3_becomeCut_82 (rt_z rfl (Or.inr rfl)) ⟨rfl, hS70, hF74, km77, Or.inl ⟨⟨c53, c54, c59⟩, f72, rfl⟩⟩
      · refine r_iconst (v := 0) rfl dX3_becomeCut_67 (by decide) ?_
        subst e58
        subst e56
        subst e52
        exact r_ret dX3_becomeCut_68 (rt_z rfl (Or.inl rfl)) ⟨rfl, hS, (KX_rf (l := [100 + 8 * i]) h), (KM_rf (Mod := [100 + 8 * i]) h), Or.inr ⟨fun z => c59 z.2.2, fl, rfl⟩⟩
    · refine r_iconst (v := 0) rfl dX3_becomeCut_25 (by decide) ?_
      subst e52
      exact r_ret dX3_becomeCut_26 (rt_z rfl (Or.inl rfl)) ⟨rfl, hS, (KX_rf (l := [100 + 8 * i]) h), (KM_rf (Mod := [100 + 8 * i]) h), Or.inr ⟨fun z => z.2.1 c54, fl, rfl⟩⟩
/-- what the first k LINES say is in the class's sets -/
def SWc (k : Nat) (Y : Nat → Int64) (h : ev_H) : Prop := ∀ i, i < k → ∀ w, w < 3 → WD h (102 + 8 * i + 2 * w) (fun p => Y (160 * w + 4 * i + p))
theorem SW_M {k j : Nat} {Y : Nat → Int64} {h h' : ev_H} (hk : KM [100 + 8 * j] h h') (h1 : SWc k Y h) : SWc k Y h' := fun i hi w hw => by
  obtain ⟨t, e⟩ := h1 i hi w hw
  exact ⟨t, (hk _ (by simp only [List.mem_singleton]; omega)).trans e⟩
theorem SW_3 {k : Nat} {Y : Nat → Int64} {h h' : ev_H} (hk : K3 k h h') (h1 : SWc k Y h) : SWc k Y h' := fun i hi w hw => WD_3 hk (by omega) (by omega) (by omega) (h1 i hi w hw)
theorem SW_f {h h' : ev_H} {k : Nat} {Y : Nat → Int64} (hk : k ≤ 40) (hf : ∀ q, 102 ≤ q → q < 420 → h' q = h q) (h1 : SWc k Y h) : SWc k Y h' := fun i hi w hw => WD_f hf (by omega) (h1 i hi w hw)
def own (lo lt z : Int32) : Int32 := 1 * ((lo >>> (z &&& 31)) &&& 1) + 2 * ((lt >>> (z &&& 31)) &&& 1)
theorem and1 (x : Int32) : x &&& 1 = 0 ∨ x &&& 1 = 1 := by
  have h : (x &&& 1).toBitVec = x.toBitVec &&& 1#32 := rfl
  by_cases c : x.toBitVec.getLsbD 0 = true
  · refine Or.inr (Int32.toBitVec_inj.mp (BitVec.eq_of_getLsbD_eq (fun i hi => ?_)))
    rw [h, BitVec.getLsbD_and]
    show (x.toBitVec.getLsbD i && (1#32).getLsbD i) = (1#32).getLsbD i
    by_cases e : i = 0
    · subst e; rw [c]; rfl
    · rw [show (1#32).getLsbD i = false from by rw [BitVec.getLsbD_one]; simp [e]]; exact Bool.and_false _
  · refine Or.inl (Int32.toBitVec_inj.mp (BitVec.eq_of_getLsbD_eq (fun i hi => ?_)))
    rw [h, BitVec.getLsbD_and]
    show (x.toBitVec.getLsbD i && (1#32).getLsbD i) = (0#32).getLsbD i
    by_cases e : i = 0
    · subst e; rw [Bool.eq_false_iff.mpr c]; rfl
    · rw [show (1#32).getLsbD i = false from by rw [BitVec.getLsbD_one]; simp [e], BitVec.getLsbD_zero]; exact Bool.and_false _
theorem own4 (lo lt z : Int32) : own lo lt z = 0 ∨ own lo lt z = 1 ∨ own lo lt z = 2 ∨ own lo lt z = 3 := by
  unfold own
  rcases and1 (lo >>> (z &&& 31)) with h1 | h1
  · rcases and1 (lt >>> (z &&& 31)) with h2 | h2
    · rw [h1, h2]; exact Or.inl (by decide)
    · rw [h1, h2]; exact Or.inr (Or.inr (Or.inl (by decide)))
  · rcases and1 (lt >>> (z &&& 31)) with h2 | h2
    · rw [h1, h2]; exact Or.inr (Or.inl (by decide))
    · rw [h1, h2]; exact Or.inr (Or.inr (Or.inr (by decide)))
theorem v_X3_sayAsCut {xs : Nat → Int32} {L d : Nat} {h : ev_H} {i j m : Nat} {p t o a b l p1 t1 o1 a1 b1 l1 p2 t2 o2 a2 b2 l2 : Int32} {A B : Nat → Nat → Int64} {c : Int32} (hS : SH h) (hi : i < 40) (fl : h (100 + 8 * i) = cLn i p t o a b l) (hj : j < 40) (hm : m < 40) (fj : h (100 + 8 * j) = cLn j p1 t1 o1 a1 b1 l1) (fm : h (100 + 8 * m) = cLn m p2 t2 o2 a2 b2 l2) (hij : i ≠ j) (him : i ≠ m) (hji : j < i) (hmi : m < i) (hA : ∀ w, w < 3 → WD h (102 + 8 * j + 2 * w) (A w)) (hB : ∀ w, w < 3 → WD h (102 + 8 * m + 2 * w) (B w)) (h4 : c = 0 ∨ c = 1 ∨ c = 2 ∨ c = 3) : EV xs L (d + 2) 0 0 M_X3_sayAsCut 434 h 0 [some (.ref (100 + 8 * i)), some (.ref (100 + 8 * j)), some (.ref (100 + 8 * m)), some (.int c), none, none, none] [] (fun sz' h' r => sz' = 434 ∧ SH h' ∧ K3 i h h' ∧ (∀ w, w < 3 → WD h' (102 + 8 * i + 2 * w) (cuV c l w (A w) (B w))) ∧ r = []) := by
  rcases h4 with rfl | rfl | rfl | rfl
  · exact v_sayAsCut0 hS hi fl hj hm fj fm hij him hji hmi hA hB
  · exact v_sayAsCut1 hS hi fl hj hm fj fm hij him hji hmi hA hB
  · exact v_sayAsCut2 hS hi fl hj hm fj fm hij him hji hmi hA hB
  · exact v_sayAsCut3 hS hi fl hj hm fj fm hij him hji hmi hA hB
set_option maxRecDepth 20000 in
set_option maxHeartbeats 1000000 in
theorem v_X11_makeLine {xs : Nat → Int32} {L d : Nat} {h : ev_H} {k s a b : Nat} {z cc sc wr el cr pl tu sr lo lt fk fs : Int32} {A B C G : Nat → Int32} {Y : Nat → Int64} (hS : SH h) (hck : k ≤ 40) (hk : k < 40) (h2 : h 2 = c2 cc (nI k) sc wr el) (h5 : h 5 = c5 cr pl tu sr) (h9 : h 9 = cI 24 A) (h10 : h 10 = cI 24 B) (h11 : h 11 = cI 24 C) (hs : s < 24) (ha : a < k) (hb : b < k) (hA : A s = nI a) (hB : B s = nI b) (hC : C s = z) (hLN : LN k G h) (h13 : h 13 = c13 lo lt fk fs) (hSW : SWc k Y h) : EV xs L (d + 3) 0 0 M_X11_makeLine 434 h 0 [some (.ref 2), some (.int (nI s)), none, none, none, none, none, none] [] (fun sz' h' r => sz' = 434 ∧ SH h' ∧ KT h h' ∧ h' 2 = c2 cc (nI k) sc wr el ∧ h' 13 = h 13 ∧ h' 24 = h 24 ∧ ((cuK G a b z ∧ LN (k + 1) (cuG G k a b z) h' ∧ SWc k Y h' ∧ (∀ w, w < 3 → WD h' (102 + 8 * k + 2 * w) (cuV (own lo lt z) z w (fun p => Y (160 * w + 4 * a + p)) (fun p => Y (160 * w + 4 * b + p)))) ∧ r = [.int 1]) ∨ (¬ cuK G a b z ∧ LN k G h' ∧ SWc k Y h' ∧ r = [.int 0]))) := by
  refine r_aload_n rfl dX11_makeLine_0 rfl ?_
  refine r_getv 1 rfl dX11_makeLine_1 (show 2 ≤ 2 ∧ 2 < 434 by decide) h2 fl_X11_19 rfl ?_
  refine r_iload_n rfl dX11_makeLine_4 rfl ?_
  refine cl_X11_269 rfl rfl dX11_makeLine_5 (show 2 ≤ 5 ∧ 5 < 434 by decide).1 (show 2 ≤ 5 ∧ 5 < 434 by decide).2 h5 (Nat.le_of_ble_eq_true rfl) (s_X4_firstOf hS h5 h9 (k := s) (by omega)) ?_
  rintro _ h51 _ ⟨rfl, e52, rfl⟩
  replace e52 := e52.symm
  subst e52
  refine r_eqi (y := nI a) hA ?_
  refine r_istore_n (ls' := [some (.ref 2), some (.int (nI s)), some (.int (nI a)), none, none, none, none, none]) rfl dX11_makeLine_8 (Nat.le_of_ble_eq_true rfl) rfl ?_
  refine r_aload_n rfl dX11_makeLine_9 rfl ?_
  refine r_getv 1 rfl dX11_makeLine_10 (show 2 ≤ 2 ∧ 2 < 434 by decide) h2 fl_X11_19 rfl ?_
  refine r_iload_n rfl dX11_makeLine_13 rfl ?_
  refine cl_X11_272 rfl rfl dX11_makeLine_14 (show 2 ≤ 5 ∧ 5 < 434 by decide).1 (show 2 ≤ 5 ∧ 5 < 434 by decide).2 h5 (Nat.le_of_ble_eq_true rfl) (s_X4_secondOf hS h5 h10 (k := s) (by omega)) ?_
  rintro _ h53 _ ⟨rfl, e54, rfl⟩
  replace e54 := e54.symm
  subst e54
  refine r_eqi (y := nI b) hB ?_
  refine r_istore_n (ls' := [some (.ref 2), some (.int (nI s)), some (.int (nI a)), some (.int (nI b)), none, none, none, none]) rfl dX11_makeLine_17 (Nat.le_of_ble_eq_true rfl) rfl ?_
  refine r_aload_n rfl dX11_makeLine_18 rfl ?_
  refine r_getv 1 rfl dX11_makeLine_19 (show 2 ≤ 2 ∧ 2 < 434 by decide) h2 fl_X11_19 rfl ?_
  refine r_iload_n rfl dX11_makeLine_22 rfl ?_
  refine cl_X11_275 rfl rfl dX11_makeLine_23 (show 2 ≤ 5 ∧ 5 < 434 by decide).1 (show 2 ≤ 5 ∧ 5 < 434 by decide).2 h5 (Nat.le_of_ble_eq_true rfl) (s_X4_letterOf hS h5 h11 (k := s) (by omega)) ?_
  rintro _ h55 _ ⟨rfl, e56, rfl⟩
  replace e56 := e56.symm
  subst e56
  refine r_eqi (y := z) hC ?_
  refine r_istore (ls' := [some (.ref 2), some (.int (nI s)), some (.int (nI a)), some (.int (nI b)), some (.int z), none, none, none]) rfl dX11_makeLine_26 (Nat.le_of_ble_eq_true rfl) rfl ?_
  refine r_aload_n rfl dX11_makeLine_28 rfl ?_
  refine r_iload_n rfl dX11_makeLine_29 rfl ?_
  refine cl_X11_121 rfl rfl dX11_makeLine_30 (show 2 ≤ 2 ∧ 2 < 434 by decide).1 (show 2 ≤ 2 ∧ 2 < 434 by decide).2 h2 (Nat.le_of_ble_eq_true rfl) (x_lineAt_in hS h2 (by omega) (n := a) (by omega)) ?_
  rintro _ h57 _ ⟨rfl, e58, rfl⟩
  replace e58 := e58.symm
  subst e58
  refine r_astore (ls' := [some (.ref 2), some (.int (nI s)), some (.int (nI a)), some (.int (nI b)), some (.int z), some (.ref (100 + 8 * a)), none, none]) rfl dX11_makeLine_33 (Nat.le_of_ble_eq_true rfl) rfl ?_
  refine r_aload_n rfl dX11_makeLine_35 rfl ?_
  refine r_iload_n rfl dX11_makeLine_36 rfl ?_
  refine cl_X11_121 rfl rfl dX11_makeLine_37 (show 2 ≤ 2 ∧ 2 < 434 by decide).1 (show 2 ≤ 2 ∧ 2 < 434 by decide).2 h2 (Nat.le_of_ble_eq_true rfl) (x_lineAt_in hS h2 (by omega) (n := b) (by omega)) ?_
  rintro _ h59 _ ⟨rfl, e60, rfl⟩
  replace e60 := e60.symm
  subst e60
  refine r_astore (ls' := [some (.ref 2), some (.int (nI s)), some (.int (nI a)), some (.int (nI b)), some (.int z), some (.ref (100 + 8 * a)), some (.ref (100 + 8 * b)), none]) rfl dX11_makeLine_40 (Nat.le_of_ble_eq_true rfl) rfl ?_
  refine r_aload rfl dX11_makeLine_42 rfl ?_
  refine r_ifnull rfl (by decide) dX11_makeLine_44 ?_
  refine r_aload rfl dX11_makeLine_47 rfl ?_
  refine r_ifnull rfl (by decide) dX11_makeLine_49 ?_
  refine r_aload_n rfl dX11_makeLine_52 rfl ?_
  refine r_getv 12 rfl dX11_makeLine_53 (show 2 ≤ 2 ∧ 2 < 434 by decide) h2 fl_X11_118 rfl ?_
  refine r_aload_n rfl dX11_makeLine_56 rfl ?_
  refine r_getv 2 rfl dX11_makeLine_57 (show 2 ≤ 2 ∧ 2 < 434 by decide) h2 fl_X11_25 rfl ?_
  refine r_alen (v := 40) rfl dX11_makeLine_60 (by decide) (by decide) hS.o12 (by decide) rfl ?_
  refine r_icmp_lt (tgt := 66) rfl rfl dX11_makeLine_61 (fun _ => ?_) (fun zc => absurd (show nI k < (40 : Int32) from nI_lt (a := k) (b := 40) (by omega) (by decide)) zc)
  refine r_aload_n rfl dX11_makeLine_66 rfl ?_
  refine r_getv 2 rfl dX11_makeLine_67 (show 2 ≤ 2 ∧ 2 < 434 by decide) h2 fl_X11_25 rfl ?_
  refine r_aload_n rfl dX11_makeLine_70 rfl ?_
  refine r_getv 12 rfl dX11_makeLine_71 (show 2 ≤ 2 ∧ 2 < 434 by decide) h2 fl_X11_118 rfl ?_
  refine r_aald (jn := k) (v := .ref (100 + 8 * k)) rfl dX11_makeLine_74 (show 2 ≤ 12 ∧ 12 < 434 by decide).1 (show 2 ≤ 12 ∧ 12 < 434 by decide).2 hS.o12 (by decide) (vp_in_nI (n := k) (by omega) (by decide)) (nI_clamp (n := k) (by omega)) (by show va_rf (if _ < _ then _ else _) = _; rw [if_pos (show k < 40 by omega)]; rfl) ?_
  refine r_astore (ls' := [some (.ref 2), some (.int (nI s)), some (.int (nI a)), some (.int (nI b)), some (.int z), some (.ref (100 + 8 * a)), some (.ref (100 + 8 * b)), some (.ref (100 + 8 * k))]) rfl dX11_makeLine_75 (Nat.le_of_ble_eq_true rfl) rfl ?_
  refine r_aload rfl dX11_makeLine_77 rfl ?_
  refine r_aload rfl dX11_makeLine_79 rfl ?_
  refine r_aload rfl dX11_makeLine_81 rfl ?_
  refine r_iload rfl dX11_makeLine_83 rfl ?_
  obtain ⟨y61, y62, y63, y64, y65, y66, f67⟩ := hS.ln (i := k) (by omega)
  obtain ⟨y68, y69, y70, y71, y72, y73, f74⟩ := hS.ln (i := k) (by omega)
  refine cl_X11_278 rfl rfl dX11_makeLine_85 (show 2 ≤ 100 + 8 * k ∧ 100 + 8 * k < 434 by omega).1 (show 2 ≤ 100 + 8 * k ∧ 100 + 8 * k < 434 by omega).2 f67 (Nat.le_of_ble_eq_true rfl) (v_X3_becomeCut hS (i := k) (j := a) (m := b) (by omega) f74 (by omega) (by omega) (hLN a (by omega)) (hLN b (by omega)) (by omega) (by omega)) ?_
  rintro _ h75 _ ⟨rfl, hS76, hk77, km78, ⟨c79, f80, rfl⟩ | ⟨c79, f80, rfl⟩⟩
  · have LN81 : LN k G h75 := fun i hi => (hk77 _ (by simp <;> omega) (nSP_ln (by omega))).trans (hLN i hi)
    have sw82 := SW_M km78 hSW
    have hF83 := KT_tr (KT_rf h) (KT_l (i := k) (by omega) hk77)
    have f84 : h75 (2) = .inr (11, [.ref 3, .ref 5, .ref 12, .ref 13, .ref 24, .ref 93, .ref 95, .ref 96, .ref 97, .ref 98, .ref 99, .int cc, .int (nI k), .int sc, .int wr, .int el]) := (hk77 _ (by simp <;> omega) nSP_2).trans h2
    have f85 : h75 (5) = .inr (4, [.ref 6, .ref 7, .ref 8, .int cr, .int pl, .int tu, .ref 9, .ref 10, .ref 11, .int sr]) := (hk77 _ (by simp <;> omega) nSP_5).trans h5
    have f86 : h75 (9) = .inl (0, 24, .inl A) := (hk77 _ (by simp <;> omega) nSP_9).trans h9
    have f87 : h75 (10) = .inl (0, 24, .inl B) := (hk77 _ (by simp <;> omega) nSP_10).trans h10
    have f88 : h75 (11) = .inl (0, 24, .inl C) := (hk77 _ (by simp <;> omega) nSP_11).trans h11
    have f89 : h75 (13) = h 13 := (hk77 _ (by simp <;> omega) nSP_13).trans rfl
    have f90 : h75 (24) = h 24 := (hk77 _ (by simp <;> omega) nSP_24).trans rfl
    refine r_if_ne (tgt := 93) rfl rfl dX11_makeLine_88 (fun _ => ?_) (fun zc => absurd zc (by decide))
    refine r_aload rfl dX11_makeLine_93 rfl ?_
    refine r_iload_n rfl dX11_makeLine_95 rfl ?_
    refine r_iload_n rfl dX11_makeLine_96 rfl ?_
    refine r_iload rfl dX11_makeLine_97 rfl ?_
    refine cl_X11_282 rfl rfl dX11_makeLine_99 (show 2 ≤ 100 + 8 * k ∧ 100 + 8 * k < 434 by omega).1 (show 2 ≤ 100 + 8 * k ∧ 100 + 8 * k < 434 by omega).2 f80 (Nat.le_of_ble_eq_true rfl) (v_X3_rememberCut hS76 (i := k) (by omega) f80) ?_
    rintro _ h91 _ ⟨rfl, hS92, hk93, km94, f95, rfl⟩
    have LN96 : LN k G h91 := fun i hi => (hk93 _ (by simp <;> omega) (nSP_ln (by omega))).trans (LN81 i hi)
    have sw97 := SW_M km94 sw82
    have hF98 := KT_tr hF83 (KT_l (i := k) (by omega) hk93)
    have f99 : h91 (2) = .inr (11, [.ref 3, .ref 5, .ref 12, .ref 13, .ref 24, .ref 93, .ref 95, .ref 96, .ref 97, .ref 98, .ref 99, .int cc, .int (nI k), .int sc, .int wr, .int el]) := (hk93 _ (by simp <;> omega) nSP_2).trans f84
    have f100 : h91 (5) = .inr (4, [.ref 6, .ref 7, .ref 8, .int cr, .int pl, .int tu, .ref 9, .ref 10, .ref 11, .int sr]) := (hk93 _ (by simp <;> omega) nSP_5).trans f85
    have f101 : h91 (9) = .inl (0, 24, .inl A) := (hk93 _ (by simp <;> omega) nSP_9).trans f86
    have f102 : h91 (10) = .inl (0, 24, .inl B) := (hk93 _ (by simp <;> omega) nSP_10).trans f87
    have f103 : h91 (11) = .inl (0, 24, .inl C) := (hk93 _ (by simp <;> omega) nSP_11).trans f88
    have f104 : h91 (13) = h 13 := (hk93 _ (by simp <;> omega) nSP_13).trans f89
    have f105 : h91 (24) = h 24 := (hk93 _ (by simp <;> omega) nSP_24).trans f90
    refine r_aload rfl dX11_makeLine_102 rfl ?_
    refine r_aload rfl dX11_makeLine_104 rfl ?_
    refine r_aload rfl dX11_makeLine_106 rfl ?_
    refine r_aload_n rfl dX11_makeLine_108 rfl ?_
    refine r_getv 3 rfl dX11_makeLine_109 (show 2 ≤ 2 ∧ 2 < 434 by decide) f99 fl_X11_32 rfl ?_
    refine r_iload rfl dX11_makeLine_112 rfl ?_
    refine cl_X11_129 rfl rfl dX11_makeLine_114 (show 2 ≤ 13 ∧ 13 < 434 by decide).1 (show 2 ≤ 13 ∧ 13 < 434 by decide).2 (f104.trans h13) (Nat.le_of_ble_eq_true rfl) (x_X7_ownerOf hS92 (f104.trans h13)) ?_
    rintro _ h106 _ ⟨rfl, e107, rfl⟩
    replace e107 := e107.symm
    subst e107
    refine cl_X11_285 rfl rfl dX11_makeLine_117 (show 2 ≤ 100 + 8 * k ∧ 100 + 8 * k < 434 by omega).1 (show 2 ≤ 100 + 8 * k ∧ 100 + 8 * k < 434 by omega).2 f95 (Nat.le_of_ble_eq_true rfl) (v_X3_sayAsCut hS92 (i := k) (j := a) (m := b) (A := fun w p => Y (160 * w + 4 * a + p)) (B := fun w p => Y (160 * w + 4 * b + p)) (c := own lo lt z) (by omega) f95 (by omega) (by omega) (LN96 a (by omega)) (LN96 b (by omega)) (by omega) (by omega) (by omega) (by omega) (sw97 a (by omega)) (sw97 b (by omega)) (own4 lo lt z)) ?_
    rintro _ h109 _ ⟨rfl, hS110, hk111, w112, rfl⟩
    have hk113 : KX [] h91 h109 := K3_X (i := k) (by omega) hk111
    have f114 := (hk113 (100 + 8 * k) (by simp) (nSP_ln (by omega))).trans f95
    have sw115 := SW_3 hk111 sw97
    have hF116 := KT_tr hF98 (KT_x (by decide) hk113)
    have f117 : h109 (2) = .inr (11, [.ref 3, .ref 5, .ref 12, .ref 13, .ref 24, .ref 93, .ref 95, .ref 96, .ref 97, .ref 98, .ref 99, .int cc, .int (nI k), .int sc, .int wr, .int el]) := (hk113 _ (by decide) nSP_2).trans f99
    have f118 : h109 (5) = .inr (4, [.ref 6, .ref 7, .ref 8, .int cr, .int pl, .int tu, .ref 9, .ref 10, .ref 11, .int sr]) := (hk113 _ (by decide) nSP_5).trans f100
    have f119 : h109 (9) = .inl (0, 24, .inl A) := (hk113 _ (by decide) nSP_9).trans f101
    have f120 : h109 (10) = .inl (0, 24, .inl B) := (hk113 _ (by decide) nSP_10).trans f102
    have f121 : h109 (11) = .inl (0, 24, .inl C) := (hk113 _ (by decide) nSP_11).trans f103
    have f122 : h109 (13) = h 13 := (hk113 _ (by decide) nSP_13).trans f104
    have f123 : h109 (24) = h 24 := (hk113 _ (by decide) nSP_24).trans f105
    have LN124 := LN_kx (by decide) hk113 (by omega) LN96
    refine r_iconst (v := 1) rfl dX11_makeLine_120 (by decide) ?_
    exact r_ret dX11_makeLine_121 (rt_z rfl (Or.inr rfl)) ⟨rfl, hS110, hF116, f117, f122, f123, Or.inl ⟨c79, LN_cu (by omega) LN124 (fun _ _ => rfl) f114, sw115, w112, rfl⟩⟩
  · have LN125 : LN k G h75 := fun i hi => (hk77 _ (by simp <;> omega) (nSP_ln (by omega))).trans (hLN i hi)
    have sw126 := SW_M km78 hSW
    have hF127 := KT_tr (KT_rf h) (KT_l (i := k) (by omega) hk77)
    have f128 : h75 (2) = .inr (11, [.ref 3, .ref 5, .ref 12, .ref 13, .ref 24, .ref 93, .ref 95, .ref 96, .ref 97, .ref 98, .ref 99, .int cc, .int (nI k), .int sc, .int wr, .int el]) := (hk77 _ (by simp <;> omega) nSP_2).trans h2
    have f129 : h75 (5) = .inr (4, [.ref 6, .ref 7, .ref 8, .int cr, .int pl, .int tu, .ref 9, .ref 10, .ref 11, .int sr]) := (hk77 _ (by simp <;> omega) nSP_5).trans h5
    have f130 : h75 (9) = .inl (0, 24, .inl A) := (hk77 _ (by simp <;> omega) nSP_9).trans h9
    have f131 : h75 (10) = .inl (0, 24, .inl B) := (hk77 _ (by simp <;> omega) nSP_10).trans h10
    have f132 : h75 (11) = .inl (0, 24, .inl C) := (hk77 _ (by simp <;> omega) nSP_11).trans h11
    have f133 : h75 (13) = h 13 := (hk77 _ (by simp <;> omega) nSP_13).trans rfl
    have f134 : h75 (24) = h 24 := (hk77 _ (by simp <;> omega) nSP_24).trans rfl
    refine r_if_ne (tgt := 93) rfl rfl dX11_makeLine_88 (fun zc => absurd zc (by decide)) (fun _ => ?_)
    refine r_iconst (v := 0) rfl dX11_makeLine_91 (by decide) ?_
    exact r_ret dX11_makeLine_92 (rt_z rfl (Or.inl rfl)) ⟨rfl, hS76, hF127, f128, f133, f134, Or.inr ⟨c79, LN125, sw126, rfl⟩⟩
