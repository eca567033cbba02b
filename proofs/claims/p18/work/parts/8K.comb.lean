theorem cb_clauses {h1 h2 : ev_H} {n c m t : Nat} {wr : Int32} {s : Int64} {f g G : Nat → Int32} (hX : TXR f g n) (hc : c ≤ 16) (hm : m ≤ 24) (hG : GV c m G) (hk : KD h1 h2) (a : (csF f n = -1 ∧ IC5 0 (csN f n) 0 0 (-9) s f (csG f n) h1) ∨ (¬ csF f n = -1 ∧ IC5 n c m t wr s f G h1)) (b : (csF f n = -1 ∧ ∃ G', (∀ x, x < 6 * csN f n → G' x = csG f n x) ∧ IM5 0 (csN f n) 0 0 (-9) s g G' h2) ∨ (¬ csF f n = -1 ∧ IM5 n c m t wr s g G h2)) : ∃ n1 c1 m1 t1 wr1 G1, IC5 n1 c1 m1 t1 wr1 s f G1 h2 ∧ IM5 n1 c1 m1 t1 wr1 s g G1 h2 ∧ TXR f g n1 ∧ c1 ≤ 16 ∧ m1 ≤ 24 ∧ GV c1 m1 G1 := by
  rcases a with ⟨e, a⟩ | ⟨e, a⟩
  · rcases b with ⟨-, G', hG2, b⟩ | ⟨e2, -⟩
    · have hl := csN_le f n
      exact ⟨0, csN f n, 0, 0, -9, G', (a.cg hl (fun x hx => (hG2 x hx).symm)).kd (by omega) hk, b, TXR_0 f g, hl, by omega, GV_cg (fun x hx => (hG2 x hx).symm) (GV_cl hX)⟩
    · exact absurd e e2
  · rcases b with ⟨e2, -⟩ | ⟨-, b⟩
    · exact absurd e2 e
    · exact ⟨n, c, m, t, wr, G, a.kd (by omega) hk, b, hX, hc, hm, hG⟩
theorem cb_proof {h1 h2 : ev_H} {n c m t : Nat} {wr : Int32} {s : Int64} {f g G : Nat → Int32} (hX : TXR f g n) (hc : c ≤ 16) (hm : m ≤ 24) (hG : GV c m G) (hk : KD h1 h2) (a : (stF f n c = -1 ∧ IC5 0 c (stM f n c G).1 (stN f n c) (stM f n c G).2.1 s f (stM f n c G).2.2 h1) ∨ (¬ stF f n c = -1 ∧ IC5 n c m t wr s f G h1)) (b : (stF f n c = -1 ∧ stN f n c ≤ 24 ∧ IM5 0 c (stM f n c G).1 (stN f n c) (stM f n c G).2.1 s g (stM f n c G).2.2 h2) ∨ (¬ stF f n c = -1 ∧ IM5 n c m t wr s g G h2)) : ∃ n1 c1 m1 t1 wr1 G1, IC5 n1 c1 m1 t1 wr1 s f G1 h2 ∧ IM5 n1 c1 m1 t1 wr1 s g G1 h2 ∧ TXR f g n1 ∧ c1 ≤ 16 ∧ m1 ≤ 24 ∧ GV c1 m1 G1 := by
  rcases a with ⟨e, a⟩ | ⟨e, a⟩
  · rcases b with ⟨-, hN, b⟩ | ⟨e2, -⟩
    · have hl : (stM f n c G).1 ≤ 0 + stN f n c := mkL_le c _ _ _ _ 0 G
      exact ⟨0, c, _, _, _, _, a.kd (by omega) hk, b, TXR_0 f g, hc, by omega, GV_pr hX hc hG⟩
    · exact absurd e e2
  · rcases b with ⟨e2, -⟩ | ⟨-, b⟩
    · exact absurd e2 e
    · exact ⟨n, c, m, t, wr, G, a.kd (by omega) hk, b, hX, hc, hm, hG⟩
