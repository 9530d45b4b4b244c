section TIE3
variable {l : Launch} {E : gEnv} {a : Nat → Nat} {f : gF} {hh : Int64} {A : gA} {tl : va_W} {i : Nat} {S S' : gSt} {y x1 x2 x3 : Int32}
theorem inI_j {lo hi j : Nat} (h1 : lo ≤ j) (h2 : j ≤ hi) (h3 : hi < 2 ^ 31) : inI (nI j) (nI lo) (nI hi) = true := inI_t (nI_not_lt h1 (by omega)) (nI_not_lt h2 h3)
/-- next, of the whole state -/
theorem nx_rel (hi : i ≤ 2048) (hR : Rel i S f A) (lw : Nat) : nxB S.1 lw (S.2.2.2.2.1.2.1 2) S.2.2.2.2.1.2.2.1 = nxS S.1 lw (sF (A 7)) (shB S.1 (A 7)) (f 3) := by
  have hN := hR.2.2.2.2.1
  rw [hN.1]
  exact nxB_S hR.1 hN.2.2.2.2.1 (hN.sh hR.1) (hN.ok hR.1 (by omega))
theorem p_next (hi : i ≤ 2048) (hR : Rel i S f A) (hX : rX_next S x1 y S') : Cn l E yX11_next wsX11_next (rmL 3 0 0) [.ref (a 32), .int x1] (mC E a f hh A ++ tl) 0 0 (MP E a tl i y S') := Cn.mono (c_X11_next l E a f hh A tl S.1 hR.2.1 hR.1.1 hR.2.2.1 hR.1 hR.2.2.2.2.1.2.2.2.2.1 x1) fun v w h => by
  rcases hX with ⟨c, rfl, rfl⟩ | ⟨lw, c1, rfl, c2, rfl, rfl⟩ | ⟨lw, c1, rfl, c2, rfl, rfl⟩
  · exact MP.sc h (by unfold nexM; rw [if_neg (by rw [c]; decide)]) hR.up
  · exact MP.sc h (by unfold nexM; rw [if_pos (inI_j (by omega) (by omega) (by decide)), if_pos c2]) hR.up
  · exact MP.sc h (by unfold nexM; rw [if_pos (inI_j (by omega) (by omega) (by decide)), if_neg c2, nI_clamp (by omega)]; exact nx_rel hi hR lw) hR.up
theorem gR_now (hi : i ≤ 2048) (hR : Rel i S f A) {x y z : Int32} {B : Nat → Nat → Int32} {Q : Prop} (hp : okP x) (hB : ∀ k, k ≠ 3 → B k = S.2.2.2.2.1.2.1 k) (hQ : Q → ∀ j, j < 6 → B 3 j = (-1)) : gR S.1 (sF (A 7)) (sumB (S.2.2.2.2.1.2.1 4) 6) Q (B, x, y, z) (shB S.1 (A 7), x, y, z, nI 0, fun _ => (-1)) := by
  have hN := hR.2.2.2.2.1
  refine ⟨rfl, rfl, rfl, ?_, fun j hj => ?_, ?_, hQ, hp⟩
  · show shN (B 2) = _
    rw [hB 2 (by decide)]; exact hN.sh hR.1
  · show j < tN S.1 ∧ B 2 j = sF (A 7) j ∧ ∃ q, q ≤ 20000 ∧ B 2 j = nI q
    rw [hB 2 (by decide)]; exact hN.ok hR.1 (by omega) j hj
  · show sumB (B 4) 6 = _ + nI 0
    rw [hB 4 (by decide)]; exact (Int32.add_zero _).symm
theorem by_rel (hi : i ≤ 2048) (hR : Rel i S f A) (lw : Nat) {j : Nat} (hj : j ≤ 2) : byC S.1 (S.2.2.2.2.1.2.1, S.2.2.2.2.1.2.2.1, S.2.2.2.2.1.2.2.2.1, S.2.2.2.2.1.2.2.2.2) lw j = byV (byG S.1 f A lw) (nI j) := by
  have hN := hR.2.2.2.2.1
  have g := go_tie (lw := lw) (m := 6) hR.1 (gR_now hi hR (x := f 3) (y := f 5) (z := f 4) (B := S.2.2.2.2.1.2.1) (Q := False) hN.2.2.2.2.1 (fun _ _ => rfl) (fun h => h.elim))
  rw [hN.1, hN.2.1, hN.2.2.1]
  obtain ⟨g1, g2, -, -, -, g6, -, -⟩ := g
  rcases (show j = 0 ∨ j = 1 ∨ j = 2 by omega) with rfl | rfl | rfl
  · show sumB ((laN S.1 lw 6 (S.2.2.2.2.1.2.1, f 3, f 5, f 4)).1 4) 6 - sumB (S.2.2.2.2.1.2.1 4) 6 = (byG S.1 f A lw).2.2.2.2.1
    rw [g6, Int32.add_comm, Int32.add_sub_cancel]
    rfl
  · show (laN S.1 lw 6 (S.2.2.2.2.1.2.1, f 3, f 5, f 4)).2.2.1 = _
    rw [g2]; rfl
  · show (laN S.1 lw 6 (S.2.2.2.2.1.2.1, f 3, f 5, f 4)).2.1 = _
    rw [g1]; rfl
theorem p_by (hi : i ≤ 2048) (hR : Rel i S f A) (hX : rX_by S x1 x2 y S') : Cn l E yX11_by wsX11_by (rmL 5 0 0) [.ref (a 32), .int x1, .int x2] (mC E a f hh A ++ tl) 0 0 (MP E a tl i y S') := Cn.mono (c_X11_by l E a f hh A tl S.1 hR.2.1 hR.1.1 hR.2.2.1 hR.1 hR.2.2.2.2.1.2.2.2.2.1 x1 x2) fun v w h => by
  rcases hX with ⟨c, rfl, rfl⟩ | ⟨lw, c1, rfl, c2, c3, rfl, rfl⟩ | ⟨lw, j, c1, rfl, c2, rfl, c3, z1, z2, z3, z4, z5, rfl, rfl⟩
  · refine MP.sc h ?_ hR.up
    unfold byM
    rw [if_neg]
    rw [Bool.and_eq_true]
    rintro ⟨w1, w2⟩
    rcases c with c | c
    · rw [w1] at c; exact absurd c (by decide)
    · rw [w2] at c; exact absurd c (by decide)
  · refine MP.sc h ?_ hR.up
    unfold byM
    rw [if_pos (by rw [inI_j (by omega) (by omega) (by decide), c2]; rfl), if_pos c3]
  · refine MP.sc h ?_ (hR.sc rfl rfl rfl rfl rfl rfl rfl rfl).up
    unfold byM
    rw [if_pos (by rw [inI_j (by omega) (by omega) (by decide), inI_j (by omega) c2 (by decide)]; rfl), if_neg c3, nI_clamp (by omega)]
    exact by_rel hi hR lw c2
/-- what the search needs of the whole state -/
theorem Rel.bd {i : Nat} {S : gSt} {f : gF} {A : gA} (hi : i ≤ 2048) (hR : Rel i S f A) : ∃ mm uu, f 5 = nI mm ∧ f 4 = nI uu ∧ uu ≤ mm + 5 ∧ mm ≤ 15000 := by
  obtain ⟨mm, uu, m1, m2, m3, m4⟩ := hR.2.2.2.2.1.2.2.2.2.2.1
  exact ⟨mm, uu, m1, m2, m4, by omega⟩
theorem lb_rel (hi : i ≤ 2048) (hR : Rel i S f A) (O BO : Nat → Int32) : ∃ l, l ≤ 2000000 ∧ (lbA S.1 (f 5) (A 7) (f 3) (f 4)).1 = nI l ∧ (dfC S.1 true true 7 (shN (S.2.2.2.2.1.2.1 2)) S.2.2.2.2.1.2.2.1 S.2.2.2.2.1.2.2.2.1 S.2.2.2.2.1.2.2.2.2 (nI 0) 0 O (ac0 BO)).1 = nI l ∧ (dfC S.1 true true 7 (shN (S.2.2.2.2.1.2.1 2)) S.2.2.2.2.1.2.2.1 S.2.2.2.2.1.2.2.2.1 S.2.2.2.2.1.2.2.2.2 (nI 0) 0 O (ac0 BO)).2.1 = (lbA S.1 (f 5) (A 7) (f 3) (f 4)).2.1 ∧ (dfC S.1 true true 7 (shN (S.2.2.2.2.1.2.1 2)) S.2.2.2.2.1.2.2.1 S.2.2.2.2.1.2.2.2.1 S.2.2.2.2.1.2.2.2.2 (nI 0) 0 O (ac0 BO)).2.2.1 = nI (cnt (shB S.1 (A 7)) (tN S.1)) ∧ ∀ k, k < cnt (shB S.1 (A 7)) (tN S.1) → (dfC S.1 true true 7 (shN (S.2.2.2.2.1.2.1 2)) S.2.2.2.2.1.2.2.1 S.2.2.2.2.1.2.2.2.1 S.2.2.2.2.1.2.2.2.2 (nI 0) 0 O (ac0 BO)).2.2.2 k = nI ((lbA S.1 (f 5) (A 7) (f 3) (f 4)).2.2.2 k) := by
  obtain ⟨mm, uu, m1, m2, m3, m4⟩ := hR.bd hi
  have hN := hR.2.2.2.2.1
  rw [hN.1, hN.2.1, hN.2.2.1, hN.sh hR.1]
  exact b_tie hR.1 shB_lt hN.2.2.2.2.1 m1 m2 m3 m4 O BO ((-1), f 5, (-1), fun _ => 0) rfl
theorem lb_ne (hi : i ≤ 2048) (hR : Rel i S f A) : ¬ (lbA S.1 (f 5) (A 7) (f 3) (f 4)).1 = (-1) := by
  obtain ⟨q, h1, h2, -⟩ := lb_rel hi hR zF zF
  rw [h2]; exact nI_m1 (by omega)
theorem bs_rel (hi : i ≤ 2048) (hR : Rel i S f A) (O BO : Nat → Int32) {j : Nat} (hj : j = 0 ∨ j = 1 ∨ ∃ k, k < 6 ∧ j = 10 + k) : bsC (dfC S.1 true true 7 (shN (S.2.2.2.2.1.2.1 2)) S.2.2.2.2.1.2.2.1 S.2.2.2.2.1.2.2.2.1 S.2.2.2.2.1.2.2.2.2 (nI 0) 0 O (ac0 BO)) j = tbM (lbA S.1 (f 5) (A 7) (f 3) (f 4)) (cnt (shB S.1 (A 7)) (tN S.1)) j := by
  obtain ⟨q, h1, h2, h3, h4, h5, h6⟩ := lb_rel hi hR O BO
  unfold tbM
  rcases hj with rfl | rfl | ⟨k, hk, rfl⟩
  · rw [if_pos rfl]; unfold bsC; rw [if_pos rfl, h2, h3]
  · rw [if_neg (by omega), if_pos rfl]; unfold bsC; rw [if_neg (by omega), if_pos rfl, h4]
  · have hK := cnt_le (shB S.1 (A 7)) (tN S.1)
    have h66 := hR.1.1
    rw [bsC_10, h5]
    simp only [show ¬ (10 + k = 0) by omega, show ¬ (10 + k = 1) by omega, if_false, show 10 + k - 10 = k by omega]
    by_cases w : k < cnt (shB S.1 (A 7)) (tN S.1)
    · rw [if_pos w, if_neg (fun z => by have := (nI_leI (by omega) (by omega)).mp z; omega), h6 k w]
    · rw [if_neg w, if_pos (nI_le (by omega) (by omega))]
theorem p_best (hi : i ≤ 2048) (hR : Rel i S f A) (hX : rX_best S x1 y S') : Cn l E yX11_best wsX11_best (rmL 4 0 0) [.ref (a 32), .int x1] (mC E a f hh A ++ tl) 0 0 (MP E a tl i y S') := Cn.mono (c_X11_best l E a f hh A tl S.1 hR.2.1 hR.1.1 hR.2.2.1 hR.1 hR.2.2.2.2.1.2.2.2.2.1 x1 (fun _ => lb_ne hi hR)) fun v w h => by
  have inj : ∀ {u j : Nat}, (u = 0 ∨ u = 1 ∨ (10 ≤ u ∧ u ≤ 15)) → (j = 0 ∨ j = 1 ∨ ∃ k, k < 6 ∧ j = 10 + k) → nI u = nI j → u = j := fun {u j} hu hj e => by
    refine (nI_eq ?_ ?_).mp e
    · omega
    · rcases hj with q | q | ⟨k, q1, q2⟩ <;> omega
  have out : ∀ {j : Nat}, (j = 0 ∨ j = 1 ∨ ∃ k, k < 6 ∧ j = 10 + k) → inI (nI j) (nI 0) (nI 1) = false → inI (nI j) (nI 10) (nI 15) = false → False := fun {j} hj e1 e2 => by
    rcases hj with q | q | ⟨k, q1, q2⟩
    · rw [inI_j (by omega) (by omega) (by decide)] at e1; exact absurd e1 (by decide)
    · rw [inI_j (by omega) (by omega) (by decide)] at e1; exact absurd e1 (by decide)
    · rw [inI_j (by omega) (by omega) (by decide)] at e2; exact absurd e2 (by decide)
  have out2 : ∀ {u : Nat}, (u = 0 ∨ u = 1 ∨ (10 ≤ u ∧ u ≤ 15)) → inI (nI u) (nI 0) (nI 1) = false → inI (nI u) (nI 10) (nI 15) = false → False := fun {u} hu e1 e2 => by
    rcases hu with q | q | q
    · rw [inI_j (by omega) (by omega) (by decide)] at e1; exact absurd e1 (by decide)
    · rw [inI_j (by omega) (by omega) (by decide)] at e1; exact absurd e1 (by decide)
    · rw [inI_j (by omega) (by omega) (by decide)] at e2; exact absurd e2 (by decide)
  rcases hX with ⟨c, c2, rfl, rfl⟩ | ⟨j, c1, rfl, c2, rfl, rfl⟩ | ⟨j, c1, rfl, c2, r1, r2, r3, r4, r5, r6, rfl, rfl⟩
  · rcases h with ⟨-, -, rfl, rfl⟩ | ⟨u, hu, e, -⟩ | ⟨u, hu, e, -⟩
    · exact ⟨rfl, f, hh, A, rfl, hR.up⟩
    · rw [e] at c c2; exact (out2 hu c c2).elim
    · rw [e] at c c2; exact (out2 hu c c2).elim
  · rcases h with ⟨e1, e2, -⟩ | ⟨u, hu, e, -, rfl, rfl⟩ | ⟨u, hu, e, e2, -⟩
    · exact (out c1 e1 e2).elim
    · exact ⟨rfl, f, hh, A, rfl, hR.up⟩
    · exact absurd c2 e2
  · rcases h with ⟨e1, e2, -⟩ | ⟨u, hu, e, e2, -⟩ | ⟨u, hu, e, -, h⟩
    · exact (out c1 e1 e2).elim
    · exact absurd e2 c2
    · have := inj hu c1 e.symm
      subst this
      exact MP.sc h (bs_rel hi hR _ _ c1) (hR.sc rfl rfl rfl rfl rfl rfl rfl rfl).up
theorem sh_rel (hi : i ≤ 2048) (hR : Rel i S f A) : shE S.1 (shN (S.2.2.2.2.1.2.1 2)) S.2.2.2.2.1.2.2.1 S.2.2.2.2.1.2.2.2.1 S.2.2.2.2.1.2.2.2.2 = (lbA S.1 (f 5) (A 7) (f 3) (f 4)).2.2.1 := by
  obtain ⟨mm, uu, m1, m2, m3, m4⟩ := hR.bd hi
  have hN := hR.2.2.2.2.1
  rw [hN.1, hN.2.1, hN.2.2.1, hN.sh hR.1]
  obtain ⟨q, -, h2, h3⟩ := s_tie hR.1 (shB_lt (r := A 7)) hN.2.2.2.2.1 m1 m2 m3 m4 zF zF ((-1), f 5, (-1), fun _ => 0) rfl
  exact h3.trans h2.symm
theorem p_shortest (hi : i ≤ 2048) (hR : Rel i S f A) (hX : rX_shortest S y S') : Cn l E yX11_shortest wsX11_shortest (rmL 4 0 0) [.ref (a 32)] (mC E a f hh A ++ tl) 0 0 (MP E a tl i y S') := Cn.mono (c_X11_shortest l E a f hh A tl S.1 hR.2.1 hR.1.1 hR.2.2.1 hR.1 hR.2.2.2.2.1.2.2.2.2.1) fun v w h => by
  rcases hX with ⟨c, rfl, rfl⟩ | ⟨c, r1, r2, r3, r4, r5, r6, rfl, rfl⟩
  · exact MP.sc h (by rw [if_pos c]) hR.up
  · exact MP.sc h (by rw [if_neg c]; exact sh_rel hi hR) (hR.sc rfl rfl rfl rfl rfl rfl rfl rfl).up
theorem p_hang {hc : Nat} (hi : i ≤ 2048) (hR : Rel i S f A) (h8 : S.2.2.2.1 8 = nI hc) (h30 : hc ≤ 30) (hX : rX_hang S hc y S') : Cn l E yX11_hang wsX11_hang (rmL 3 0 0) [.ref (a 32)] (mC E a f hh A ++ tl) 0 0 (MP E a tl i y S') := by
  have h19 : f 19 = nI hc := by
    obtain ⟨c, c1, c2, c3⟩ := hR.2.2.2.2.2.2
    rw [c3, ← c2, h8]
  refine Cn.mono (c_X11_hang l E a f hh A tl S.1 hR.2.1 hR.1.1 hR.2.2.1 hR.1 hc h19 h30) fun v w h => ?_
  rcases hX with ⟨c, rfl, rfl⟩ | ⟨c, c2, r1, r2, r3, r4, r5, r6, e1, e2⟩
  · rcases h with ⟨-, rfl, rfl⟩ | ⟨d, d2, -⟩
    · exact ⟨rfl, f, hh, A, rfl, hR.up⟩
    · rcases c with c | c
      · exact absurd c d
      · exact absurd c d2
  · rcases h with ⟨d, -⟩ | ⟨-, -, h⟩
    · rcases d with d | d
      · exact absurd d c
      · omega
    · obtain ⟨mm, uu, m1, m2, m3, m4⟩ := hR.bd hi
      have hN := hR.2.2.2.2.1
      subst e2
      refine MP.sc h (e1.trans ?_) ?_
      · rw [hN.2.1, hN.2.2.1, hN.sh hR.1, (h_tie (r := A 7) hR.1 m1 m2 m3 m4 9 (by omega)).1]
      · obtain ⟨hO, h2, h3, h4, h5, h6, h7⟩ := hR
        exact ⟨hO, h2, h3, h4, h5.up (by omega), h6.up, hc + 1, by omega, rfl, rfl⟩
theorem p_twoKeys (hi : i ≤ 2048) (hR : Rel i S f A) (hX : rX_twoKeys S y S') : Cn l E yX11_twoKeys wsX11_twoKeys (rmL 3 0 0) [.ref (a 32)] (mC E a f hh A ++ tl) 0 0 (MP E a tl i y S') := Cn.mono (c_X11_twoKeys l E a f hh A tl S.1 hR.2.1 hR.1.1 hR.2.2.1 hR.1 hR.2.2.2.2.1.2.2.2.2.1) fun v w h => by
  rcases hX with ⟨c, rfl, rfl⟩ | ⟨c, r1, r2, r3, r4, r5, r6, rfl, rfl⟩
  · rcases h with ⟨-, rfl, rfl⟩ | ⟨d, -⟩
    · exact ⟨rfl, f, hh, A, rfl, hR.up⟩
    · exact absurd c d
  · rcases h with ⟨d, -⟩ | ⟨-, h⟩
    · exact absurd d c
    · obtain ⟨mm, uu, m1, m2, m3, m4⟩ := hR.bd hi
      have hN := hR.2.2.2.2.1
      refine MP.sc h ?_ (hR.sc rfl rfl rfl rfl rfl rfl rfl rfl).up
      rw [hN.1, hN.2.1, hN.2.2.1, hN.sh hR.1]
      exact (tk_tie hR.1 shB_lt hN.2.2.2.2.1 m1 m2 m3 m4).symm
theorem p_see {sk : Nat} (hR : Rel i S f A) (hsk : S.2.2.2.2.1.1 = nI sk) (hk6 : sk ≤ 6) (hz : x3 = nI 0 ∨ x3 = nI 1) (hX : rX_see S sk x1 x2 x3 y S') : Cn l E yX11_see wsX11_see (rmL 2 0 0) [.ref (a 32), .int x1, .int x2, .int x3] (mC E a f hh A ++ tl) 0 0 (MP E a tl i y S') := by
  have h20 : f 20 = nI sk := by rw [← hsk]; exact hR.2.2.2.2.1.2.2.2.1.symm
  refine Cn.mono (c_X11_see l E a f hh A tl S.1 hR.2.1 hR.1.1 sk h20 hk6 x1 x2 x3) fun v w h => ?_
  obtain ⟨T, n, pf, g, ⟨sn, B, kp, km, ku⟩, K, U, R⟩ := S
  have es : sn = nI sk := hsk
  subst es
  obtain ⟨rfl, rfl⟩ := h
  have hO : okT T := hR.1
  have h66 := hO.1
  rcases hX with ⟨c, rfl, rfl⟩ | ⟨c, c2, rfl, rfl⟩ | ⟨h, c1, rfl, c2, c3, rfl, rfl⟩ | ⟨h, c1, rfl, c2, c3, rfl, rfl⟩
  · have e : seeM T f A x1 x2 x3 = ((-101), f, A) := by unfold seeM; rw [if_neg (by rw [c]; decide)]
    rw [e]; exact ⟨rfl, f, hh, A, rfl, hR.up⟩
  · have e : seeM T f A x1 x2 x3 = ((-102), f, A) := by unfold seeM; rw [if_pos c, if_neg (by rw [c2]; decide)]
    rw [e]; exact ⟨rfl, f, hh, A, rfl, hR.up⟩
  · have e : seeM T f A (nI h) x2 x3 = ((-104), f, A) := by unfold seeM; rw [if_pos (hsB_t hO.1 c1), if_pos c2, if_pos (by rw [h20, c3])]
    rw [e]; exact ⟨rfl, f, hh, A, rfl, hR.up⟩
  · have e3 : (if x3 = 0 then nI 0 else nI 1) = x3 := by
      rcases hz with z | z
      · rw [z]; rfl
      · rw [z]; rfl
    have e : seeM T f A (nI h) x2 x3 = (nI (sk + 1), upd f 20 (nI (sk + 1)), va_up A 21 (upd (upd (upd (A 21) (3 * sk) (nI h)) (3 * sk + 1) x2) (3 * sk + 2) x3)) := by
      unfold seeM
      rw [if_pos (hsB_t hO.1 c1), if_pos c2, if_neg (by rw [h20]; exact fun z => by have := (nI_eq (by omega) (by decide)).mp z; omega), h20, nI_add, nI_clamp (by omega), e3]
    rw [e]
    obtain ⟨-, h2, h3, h4, ⟨a1, a2, a3, a4, a5, a6, ⟨k', sh, s1, s2, s3⟩, a8, a9, a10⟩, h6, h7⟩ := hR
    have ek : k' = sk := (nI_eq (by omega) (by omega)).mp (s2.symm.trans h20)
    subst ek
    refine ⟨rfl, _, hh, _, rfl, hO, h2, h3, h4, nRel.up (bd := 1000 + 4 * i) (by omega) ⟨a1, a2, a3, rfl, a5, a6, ⟨k' + 1, va_up sh k' h, by omega, rfl, fun j hj => ?_⟩, a8, a9, fun j hj => ?_⟩, h6.up, h7⟩
    · show va_up sh k' h j < tN T ∧ upd (B 6) k' (nI h) j = nI (va_up sh k' h j) ∧ upd (upd (upd (A 21) (3 * k') (nI h)) (3 * k' + 1) x2) (3 * k' + 2) x3 (3 * j) = nI (va_up sh k' h j) ∧ upd (B 7) k' x2 j = upd (upd (upd (A 21) (3 * k') (nI h)) (3 * k' + 1) x2) (3 * k' + 2) x3 (3 * j + 1) ∧ upd (B 8) k' x3 j = upd (upd (upd (A 21) (3 * k') (nI h)) (3 * k' + 1) x2) (3 * k' + 2) x3 (3 * j + 2) ∧ (upd (upd (upd (A 21) (3 * k') (nI h)) (3 * k' + 1) x2) (3 * k' + 2) x3 (3 * j + 2) = nI 0 ∨ upd (upd (upd (A 21) (3 * k') (nI h)) (3 * k' + 1) x2) (3 * k' + 2) x3 (3 * j + 2) = nI 1)
      by_cases w : j = k'
      · subst w
        rw [va_up_self, pk_us, pk_un (show 3 * j ≠ 3 * j + 2 by omega), pk_un (show 3 * j ≠ 3 * j + 1 by omega), pk_us, pk_us, pk_un (show 3 * j + 1 ≠ 3 * j + 2 by omega), pk_us, pk_us, pk_us]
        exact ⟨c1, rfl, rfl, rfl, rfl, hz⟩
      · obtain ⟨t1, t2, t3, t4, t5, t6⟩ := s3 j (by omega)
        rw [va_up_ne _ _ w, pk_un w, pk_un w, pk_un w]
        have un : ∀ x, x < 3 → upd (upd (upd (A 21) (3 * k') (nI h)) (3 * k' + 1) x2) (3 * k' + 2) x3 (3 * j + x) = A 21 (3 * j + x) := fun x hx => by rw [pk_un (by omega), pk_un (by omega), pk_un (by omega)]
        have u0 : upd (upd (upd (A 21) (3 * k') (nI h)) (3 * k' + 1) x2) (3 * k' + 2) x3 (3 * j) = A 21 (3 * j) := un 0 (by omega)
        rw [u0, un 1 (by omega), un 2 (by omega)]
        exact ⟨t1, t2, t3, t4, t5, t6⟩
    · show vp_nar .boolean (upd (B 8) k' x3 j) = upd (B 8) k' x3 j
      by_cases w : j = k'
      · subst w; rw [pk_us]
        rcases hz with z | z
        · rw [z]; decide
        · rw [z]; decide
      · rw [pk_un w]; exact a10 j hj
theorem gs_rel {sk : Nat} {sh : Nat → Nat} (hi : i ≤ 2048) (hR : Rel i S f A) (hs : ∀ j, j < sk → sh j < tN S.1 ∧ S.2.2.2.2.1.2.1 6 j = nI (sh j) ∧ S.2.2.2.2.1.2.1 7 j = A 21 (3 * j + 1) ∧ S.2.2.2.2.1.2.1 8 j = A 21 (3 * j + 2) ∧ (A 21 (3 * j + 2) = nI 0 ∨ A 21 (3 * j + 2) = nI 1)) : (gsC S.1 S.2.2.2.2.1.2.1 sk 30).1 = guC S.1 (A 7) (A 21) sh sk 30 ∧ (gsC S.1 S.2.2.2.2.1.2.1 sk 30).2 = guL S.1 (A 7) (A 21) sh sk 30 := by
  refine gs_tie fun c hc => ?_
  have g := go_tie (lw := c % 3) (m := 6) hR.1 (gR_now hi hR (x := nI (c / 3)) (y := nI 0) (z := nI 0) (B := va_up S.2.2.2.2.1.2.1 3 (fun _ => (-1))) (Q := True) (okP_nI (by omega)) (fun k hk => va_up_ne _ _ hk) (fun _ j _ => by rw [va_up_self]))
  unfold gsB guB
  refine asL_tie hR.1.1 (sk := sk) (fun j hj => ?_) (fun j hj => ?_) (Nat.le_refl sk)
  · exact g.2.2.2.2.2.2.1 trivial j hj
  · rw [laN_row (by decide) (by decide) (by decide), laN_row (by decide) (by decide) (by decide), laN_row (by decide) (by decide) (by decide)]
    show _ ∧ va_up S.2.2.2.2.1.2.1 3 (fun _ => (-1)) 6 j = _ ∧ va_up S.2.2.2.2.1.2.1 3 (fun _ => (-1)) 7 j = _ ∧ va_up S.2.2.2.2.1.2.1 3 (fun _ => (-1)) 8 j = _ ∧ _
    rw [va_up_ne _ _ (by decide), va_up_ne _ _ (by decide), va_up_ne _ _ (by decide)]
    exact hs j hj
theorem p_guess {sk : Nat} {sh : Nat → Nat} (hi : i ≤ 2048) (hR : Rel i S f A) (hsk : S.2.2.2.2.1.1 = nI sk) (hk6 : sk ≤ 6) (hsh : ∀ k, k < sk → A 21 (3 * k) = nI (sh k) ∧ sh k < 6) (hs : ∀ j, j < sk → sh j < tN S.1 ∧ S.2.2.2.2.1.2.1 6 j = nI (sh j) ∧ S.2.2.2.2.1.2.1 7 j = A 21 (3 * j + 1) ∧ S.2.2.2.2.1.2.1 8 j = A 21 (3 * j + 2) ∧ (A 21 (3 * j + 2) = nI 0 ∨ A 21 (3 * j + 2) = nI 1)) (hX : rX_guess S sk x1 y S') : Cn l E yX11_guess wsX11_guess (rmL 5 0 0) [.ref (a 32), .int x1] (mC E a f hh A ++ tl) 0 0 (MP E a tl i y S') := by
  have h20 : f 20 = nI sk := by rw [← hsk]; exact hR.2.2.2.2.1.2.2.2.1.symm
  obtain ⟨T, n, pf, g, ⟨sn, B, kp, km, ku⟩, K, U, R⟩ := S
  have es : sn = nI sk := hsk
  subst es
  refine Cn.mono (c_X11_guess l E a f hh A tl T hR.2.1 hR.1.1 hR.2.2.1 hR.1 sk h20 hk6 sh hsh x1) fun v w h => ?_
  rcases hX with ⟨c, rfl, rfl⟩ | ⟨c, c2, rfl, rfl⟩ | ⟨j, c, rfl, c2, z1, z2, z3, z4, z5, rfl, rfl⟩
  · rcases h with ⟨-, rfl, rfl⟩ | ⟨d, -⟩ | ⟨d, -⟩
    · exact ⟨rfl, f, hh, A, rfl, hR.up⟩
    · rw [c] at d; exact absurd d (by decide)
    · rw [c] at d; exact absurd d (by decide)
  · rcases h with ⟨d, -⟩ | ⟨-, -, rfl, rfl⟩ | ⟨-, d, -⟩
    · rw [c] at d; exact absurd d (by decide)
    · exact ⟨rfl, f, hh, A, rfl, hR.up⟩
    · exact absurd c2 d
  · rcases h with ⟨d, -⟩ | ⟨-, d, -⟩ | ⟨-, -, h⟩
    · rw [inI_j (by omega) c (by decide)] at d; exact absurd d (by decide)
    · exact absurd d c2
    · obtain ⟨g1, g2⟩ := gs_rel hi hR hs
      refine MP.sc h ?_ hR.up
      rcases (show j = 0 ∨ j = 1 by omega) with rfl | rfl
      · rw [if_pos rfl]; exact g1
      · rw [if_neg (by decide), if_neg (by decide)]; exact g2
theorem p_nights (hR : Rel i S f A) (hX : rX_nights S x1 x2 x3 y S') : Cn l E yX11_nights wsX11_nights (rmL 4 0 0) [.ref (a 32), .int x1, .int x2, .int x3] (mC E a f hh A ++ tl) 0 0 (MP E a tl i y S') := Cn.mono (c_X11_nights l E a f hh A tl S.1 hR.2.1 hR.1.1 hR.2.2.1 hR.1 hR.2.2.2.2.1.2.2.2.2.1 x1 x2 x3) fun v w h => by
  rcases hX with ⟨c, rfl, rfl⟩ | ⟨m, j, c1, c2, rfl, c3, c4, rfl, c5, rfl, rfl⟩ | ⟨m, j, c1, c2, rfl, c3, c4, rfl, c5, z1, z2, z3, z4, z5, rfl, rfl⟩
  · have no : ∀ N : Nat, 1 ≤ N → N ≤ 60 → x1 = nI N → ¬ x2 < 0 → inI x3 (nI 0) (nI 2) = true → False := fun N h1 h2 h3 h4 h5 => by
      rcases c with c | c | c
      · rw [h3, inI_j h1 h2 (by decide)] at c; exact absurd c (by decide)
      · exact h4 c
      · rw [h5] at c; exact absurd c (by decide)
    rcases h with ⟨-, rfl, rfl⟩ | ⟨N, h1, h2, h3, h4, h5, -⟩ | ⟨N, h1, h2, h3, h4, h5, -⟩
    · exact ⟨rfl, f, hh, A, rfl, hR.up⟩
    · exact (no N h1 h2 h3 h4 h5).elim
    · exact (no N h1 h2 h3 h4 h5).elim
  · have no : ¬ ntB (nI m) x2 (nI j) := by
      rintro (c | c | c)
      · rw [inI_j c1 c2 (by decide)] at c; exact absurd c (by decide)
      · exact c3 c
      · rw [inI_j (by omega) c4 (by decide)] at c; exact absurd c (by decide)
    rcases h with ⟨d, -⟩ | ⟨N, -, -, -, -, -, -, rfl, rfl⟩ | ⟨N, -, -, -, -, -, d, -⟩
    · exact absurd d no
    · exact ⟨rfl, f, hh, A, rfl, hR.up⟩
    · exact absurd c5 d
  · have no : ¬ ntB (nI m) x2 (nI j) := by
      rintro (c | c | c)
      · rw [inI_j c1 c2 (by decide)] at c; exact absurd c (by decide)
      · exact c3 c
      · rw [inI_j (by omega) c4 (by decide)] at c; exact absurd c (by decide)
    rcases h with ⟨d, -⟩ | ⟨N, -, -, -, -, -, d, -⟩ | ⟨N, n1, n2, n3, -, -, -, h⟩
    · exact absurd d no
    · exact absurd d c5
    · have em : m = N := (nI_eq (by omega) (by omega)).mp n3
      subst em
      refine MP.sc h ?_ (hR.sc rfl rfl rfl rfl rfl rfl rfl rfl).up
      have hN := hR.2.2.2.2.1
      obtain ⟨k1, k2, -, k4, -⟩ := ntk_tie (T := S.1) hR.1 (z := ((bgB S.2.2.2.2.2.2.1.2.1, S.2.2.2.2.1.2.2.1, nI 0, nI 0), x2)) (y := (A 7, x2, f 3, nI 0)) rfl hN.1 hN.2.2.2.2.1 (by show sumB (fun _ => nI 0) 6 = nI 0; decide) (fun _ _ _ => rfl) m
      unfold ntV
      rcases (show j = 0 ∨ j = 1 ∨ j = 2 by omega) with rfl | rfl | rfl
      · rw [if_pos (by decide)]; exact k4
      · rw [if_neg (by decide), if_pos rfl]; exact k2
      · rw [if_neg (by decide), if_neg (by decide)]; exact k1
theorem p_image (hR : Rel i S f A) (hX : rX_image S y S') : Cn l E yX11_image wsX11_image (rmL 1 0 0) [.ref (a 32)] (mC E a f hh A ++ tl) 0 0 (MP E a tl i y S') := Cn.mono (c_X11_image l E a f hh A tl S.1 hR.2.1 hR.1.1) fun v w h => by
  obtain ⟨rfl, rfl⟩ := h
  rcases hX with ⟨c, rfl, rfl⟩ | ⟨c, rfl, rfl⟩
  · have e : imgM S.1 f A = ((-103), f, A) := by unfold imgM; rw [if_pos c]
    rw [e]; exact ⟨rfl, f, hh, A, rfl, hR.up⟩
  · have e : imgM S.1 f A = (f 5, upd (upd (upd (upd (upd f 24 (f 6)) 25 (f 3)) 26 (f 4)) 27 (f 5)) 28 (f 20), va_up (va_up A 29 (A 7)) 30 (A 21)) := by unfold imgM; rw [if_neg c]
    rw [e]
    obtain ⟨hO, h2, h3, h4, h5, ⟨cc, i1, i2, i3, i4⟩, h7⟩ := hR
    refine ⟨by rw [h5.2.1], _, hh, _, rfl, hO, h2, h3, h4, h5.up (by omega), ⟨cc, by omega, i2, i3, Or.inr ⟨by show ¬ nI 1 = 0; decide, i3, h3, h5.up (by omega)⟩⟩, h7⟩
theorem p_restore (hi : i ≤ 2048) (hR : Rel i S f A) (hX : rX_restore S y S') : Cn l E yX11_restore wsX11_restore (rmL 1 0 0) [.ref (a 32)] (mC E a f hh A ++ tl) 0 0 (MP E a tl i y S') := Cn.mono (c_X11_restore l E a f hh A tl) fun v w h => by
  obtain ⟨rfl, rfl⟩ := h
  obtain ⟨hO, h2, h3, h4, h5, ⟨cc, i1, i2, i3, i4⟩, h7⟩ := hR
  rcases hX with ⟨c, rfl, rfl⟩ | ⟨c, rfl, rfl⟩
  · rcases i4 with ⟨-, q⟩ | ⟨q, -⟩
    · have ne : ¬ f 24 = f 6 := by
        rw [i3]
        rcases q with q | ⟨c', q1, q2⟩
        · rw [q]; exact fun z => nI_m1 (by omega) z.symm
        · rw [q2]; exact fun z => by have := (nI_eq (by omega) (by omega)).mp z; omega
      have e : rstM f A = ((-103), f, A) := by unfold rstM; rw [if_neg ne]
      rw [e]
      exact ⟨rfl, f, hh, A, rfl, Rel.up ⟨hO, h2, h3, h4, h5, ⟨cc, i1, i2, i3, Or.inl ⟨c, q⟩⟩, h7⟩⟩
    · exact absurd c q
  · rcases i4 with ⟨q, -⟩ | ⟨-, q1, q2, q3⟩
    · exact absurd q c
    · have e : rstM f A = (f 27, upd (upd (upd (upd f 3 (f 25)) 4 (f 26)) 5 (f 27)) 20 (f 28), va_up (va_up A 7 (A 29)) 21 (A 30)) := by unfold rstM; rw [if_pos (q1.trans i3.symm)]
      rw [e]
      exact ⟨by rw [q3.2.1], _, hh, _, rfl, hO, h2, q2, h4, q3.up (by omega), ⟨cc, by omega, i2, i3, Or.inr ⟨c, q1, q2, q3.up (by omega)⟩⟩, h7⟩
/-! counts and the digest -/
theorem sm4 (r : Nat → Int32) : ∀ n, smM r 4 n = nI (cnt (outB (sF r)) n)
  | 0 => rfl
  | n + 1 => by
    rw [smM, cnt, sm4 r n, if_pos rfl]
    cases q : outB (sF r) n with
    | true => show nI _ + nI 1 = _; rw [nI_add]; rfl
    | false => show nI _ + nI 0 = _; rw [nI_add]; rfl
theorem smS {r b : Nat → Int32} {w : Nat} (hw : w ≠ 4) : ∀ {n : Nat}, (∀ h, h < n → b h = r (8 * h + w)) → sumB b n = smM r w n
  | 0, _ => rfl
  | n + 1, h => by rw [sumB, smM, if_neg hw, smS hw (fun j hj => h j (Nat.lt_succ_of_lt hj)), h n (Nat.lt_succ_self n)]
theorem sumB_cut {b : Nat → Int32} {n : Nat} : ∀ {m : Nat}, n ≤ m → (∀ h, n ≤ h → h < m → b h = nI 0) → sumB b m = sumB b n
  | 0, h, _ => by rw [show n = 0 by omega]
  | m + 1, h, hb => by
    rcases Nat.lt_or_ge n (m + 1) with q | q
    · rw [sumB, hb m (by omega) (by omega), sumB_cut (show n ≤ m by omega) (fun j h1 h2 => hb j h1 (by omega))]
      exact Int32.add_zero _
    · rw [show n = m + 1 by omega]
theorem cn_rel (hR : Rel i S f A) : ∀ j, cnC S.1 S.2.2.2.1 S.2.1 S.2.2.2.2.1.1 S.2.2.2.2.1.2.1 S.2.2.2.2.1.2.2.1 S.2.2.2.2.1.2.2.2.1 S.2.2.2.2.1.2.2.2.2 j = cntM S.1 f A j := by
  obtain ⟨hO, h2, h3, ⟨-, h4, -⟩, ⟨a1, a2, a3, a4, a5, a6, a7, a8, a9, a10⟩, ⟨cc, -, i2, i3, -⟩, ⟨d, -, d2, d3⟩⟩ := hR
  have h66 := hO.1
  intro j
  match j with
  | 0 => exact h2.symm
  | 1 =>
    show nI (cnt (outB (S.2.2.2.2.1.2.1 2)) 6) = smM (A 7) 4 (tN S.1)
    rw [sm4]
    have e1 : cnt (outB (S.2.2.2.2.1.2.1 2)) 6 = cnt (shN (S.2.2.2.2.1.2.1 2)) 6 := cnt_cong fun j hj => by unfold shN; rw [decide_eq_true hj, Bool.and_true]
    have e2 : cnt (shB S.1 (A 7)) (tN S.1) = cnt (outB (sF (A 7))) (tN S.1) := cnt_cong fun j hj => by unfold shB; rw [decide_eq_true hj, Bool.and_true]
    rw [e1, nRel.sh hO (show nRel S.1 (1000 + 4 * i) S.2.2.2.2.1 (A 7) (A 21) (f 3) (f 5) (f 4) (f 20) from ⟨a1, a2, a3, a4, a5, a6, a7, a8, a9, a10⟩), cnt_sub shB_lt h66, e2]
  | 2 => exact a1
  | 3 => exact a2
  | 4 => exact a3
  | 5 =>
    show sumB (S.2.2.2.2.1.2.1 4) 6 = smM (A 7) 6 (tN S.1)
    rw [sumB_cut h66 (fun j h1 h2 => (a9 j h1 h2).2.1)]
    exact smS (by decide) fun j hj => (a8 j hj).2.2.1
  | 6 =>
    show sumB (S.2.2.2.2.1.2.1 5) 6 = smM (A 7) 7 (tN S.1)
    rw [sumB_cut h66 (fun j h1 h2 => (a9 j h1 h2).2.2)]
    exact smS (by decide) fun j hj => (a8 j hj).2.2.2.1
  | 7 => exact a4
  | 8 => exact h4.symm
  | 9 => exact i2.trans i3.symm
  | _ + 10 => exact d2.trans d3.symm
theorem p_count (hR : Rel i S f A) (hX : rX_count S x1 y S') : Cn l E yX11_count wsX11_count (rmL 3 0 0) [.ref (a 32), .int x1] (mC E a f hh A ++ tl) 0 0 (MP E a tl i y S') := Cn.mono (c_X11_count l E a f hh A tl S.1 hR.2.1 hR.1.1 x1) fun v w h => by
  obtain ⟨rfl, rfl⟩ := h
  rcases hX with ⟨c, rfl, rfl⟩ | ⟨j, c, rfl, rfl, rfl⟩
  · exact ⟨by unfold couM; rw [if_neg (by rw [c]; decide)], f, hh, A, rfl, hR.up⟩
  · exact ⟨by unfold couM; rw [if_pos (inI_j (by omega) c (by decide)), nI_clamp (by omega), cn_rel hR], f, hh, A, rfl, hR.up⟩
theorem td_rel (hR : Rel i S f A) {h j : Nat} (hh : h < tN S.1) (hj : j < 8) : tdF S.1 S.2.2.2.2.1.2.1 h j = A 7 (8 * h + j) := by
  obtain ⟨-, -, hr, -, ⟨-, -, -, -, -, -, -, h8, -⟩, -⟩ := hR
  obtain ⟨r0, r1, r2, r3⟩ := hr h hh
  obtain ⟨b1, b2, b3, b4, -⟩ := h8 h hh
  rcases (show j = 0 ∨ j = 1 ∨ j = 2 ∨ j = 3 ∨ j = 4 ∨ j = 5 ∨ j = 6 ∨ j = 7 by omega) with rfl | rfl | rfl | rfl | rfl | rfl | rfl | rfl
  · exact r0.symm
  · exact r1.symm
  · exact r2.symm
  · exact r3.symm
  · exact b1
  · exact b2
  · exact b3
  · exact b4
theorem dyI_rel (hR : Rel i S f A) {h : Nat} (hh : h < tN S.1) (z : Int64) : ∀ {j : Nat}, j ≤ 8 → dyI S.1 S.2.2.2.2.1.2.1 h z j = syI (A 7) h z j
  | 0, _ => rfl
  | j + 1, hj => by rw [dyI, syI, dyI_rel hR hh z (show j ≤ 8 by omega), td_rel hR hh (by omega)]
theorem dyO_rel (hR : Rel i S f A) : ∀ {k : Nat}, k ≤ tN S.1 → dyO S.1 S.2.2.2.2.1.2.1 k = syO (A 7) k
  | 0, _ => rfl
  | k + 1, hk => by rw [dyO, syO, dyO_rel hR (show k ≤ tN S.1 by omega), dyI_rel hR (by omega) _ (Nat.le_refl 8)]
theorem wyB_rel (hi : i ≤ 2048) (hR : Rel i S f A) (lw : Nat) (z : Int64) : ∀ {j : Nat}, j ≤ 3 → wyB S.1 (S.2.2.2.2.1.2.1, S.2.2.2.2.1.2.2.1, S.2.2.2.2.1.2.2.2.1, S.2.2.2.2.1.2.2.2.2) lw z j = syB S.1 f A lw z j
  | 0, _ => rfl
  | j + 1, hj => by rw [wyB, syB, wyB_rel hi hR lw z (show j ≤ 3 by omega), by_rel hi hR lw (by omega)]
theorem wyL_rel (hi : i ≤ 2048) (hR : Rel i S f A) (z : Int64) : ∀ k, wyL S.1 (S.2.2.2.2.1.2.1, S.2.2.2.2.1.2.2.1, S.2.2.2.2.1.2.2.2.1, S.2.2.2.2.1.2.2.2.2) z k = syL S.1 f A z k
  | 0 => rfl
  | k + 1 => by
    rw [wyL, syL, wyL_rel hi hR z k, wyB_rel hi hR k _ (Nat.le_refl 3)]
    rw [show nxB S.1 k ((S.2.2.2.2.1.2.1, S.2.2.2.2.1.2.2.1, S.2.2.2.2.1.2.2.2.1, S.2.2.2.2.1.2.2.2.2).1 2) (S.2.2.2.2.1.2.1, S.2.2.2.2.1.2.2.1, S.2.2.2.2.1.2.2.2.1, S.2.2.2.2.1.2.2.2.2).2.1 = nxS S.1 k (sF (A 7)) (shB S.1 (A 7)) (f 3) from nx_rel hi hR k]
theorem dyT_rel {sk : Nat} {sh : Nat → Nat} (hi : i ≤ 2048) (hR : Rel i S f A) (O BO : Nat → Int32) (hs : ∀ j, j < sk → sh j < tN S.1 ∧ S.2.2.2.2.1.2.1 6 j = nI (sh j) ∧ S.2.2.2.2.1.2.1 7 j = A 21 (3 * j + 1) ∧ S.2.2.2.2.1.2.1 8 j = A 21 (3 * j + 2) ∧ (A 21 (3 * j + 2) = nI 0 ∨ A 21 (3 * j + 2) = nI 1)) : dyT S.1 (S.2.2.2.2.1.2.1, S.2.2.2.2.1.2.2.1, S.2.2.2.2.1.2.2.2.1, S.2.2.2.2.1.2.2.2.2) sk (dfC S.1 true true 7 (shN (S.2.2.2.2.1.2.1 2)) S.2.2.2.2.1.2.2.1 S.2.2.2.2.1.2.2.2.1 S.2.2.2.2.1.2.2.2.2 (nI 0) 0 O (ac0 BO)) = dgT S.1 f A sh sk := by
  by_cases c : tN S.1 = 0
  · rw [dyT_0 c, dgT_0 c]; exact dyO_rel hR (Nat.le_refl _)
  · rw [dyT_1 c, dgT_1 c]
    obtain ⟨g1, g2⟩ := gs_rel hi hR hs
    unfold wyE syE
    rw [wyL_rel hi hR, bs_rel hi hR O BO (Or.inl rfl), bs_rel hi hR O BO (Or.inr (Or.inl rfl)), bs_rel hi hR O BO (Or.inr (Or.inr ⟨0, by decide, rfl⟩))]
    rw [show dyO S.1 (S.2.2.2.2.1.2.1, S.2.2.2.2.1.2.2.1, S.2.2.2.2.1.2.2.2.1, S.2.2.2.2.1.2.2.2.2).1 (tN S.1) = syO (A 7) (tN S.1) from dyO_rel hR (Nat.le_refl _)]
    rw [show shE S.1 (shN ((S.2.2.2.2.1.2.1, S.2.2.2.2.1.2.2.1, S.2.2.2.2.1.2.2.2.1, S.2.2.2.2.1.2.2.2.2).1 2)) (S.2.2.2.2.1.2.1, S.2.2.2.2.1.2.2.1, S.2.2.2.2.1.2.2.2.1, S.2.2.2.2.1.2.2.2.2).2.1 (S.2.2.2.2.1.2.1, S.2.2.2.2.1.2.2.1, S.2.2.2.2.1.2.2.2.1, S.2.2.2.2.1.2.2.2.2).2.2.1 (S.2.2.2.2.1.2.1, S.2.2.2.2.1.2.2.1, S.2.2.2.2.1.2.2.2.1, S.2.2.2.2.1.2.2.2.2).2.2.2 = (lbA S.1 (f 5) (A 7) (f 3) (f 4)).2.2.1 from sh_rel hi hR]
    rw [show (gsC S.1 (S.2.2.2.2.1.2.1, S.2.2.2.2.1.2.2.1, S.2.2.2.2.1.2.2.2.1, S.2.2.2.2.1.2.2.2.2).1 sk 30).1 = guC S.1 (A 7) (A 21) sh sk 30 from g1, show (gsC S.1 (S.2.2.2.2.1.2.1, S.2.2.2.2.1.2.2.1, S.2.2.2.2.1.2.2.2.1, S.2.2.2.2.1.2.2.2.2).1 sk 30).2 = guL S.1 (A 7) (A 21) sh sk 30 from g2]
    rfl
theorem syP_cong {p q : Nat → Int32} {h : Int64} : ∀ {k : Nat}, (∀ j, j < k → p j = q j) → syP p h k = syP q h k
  | 0, _ => rfl
  | k + 1, e => by rw [syP, syP, syP_cong (fun j hj => e j (Nat.lt_succ_of_lt hj)), e k (Nat.lt_succ_self k)]
theorem dyN_rel (hR : Rel i S f A) (h : Int64) : ∀ {k : Nat}, k ≤ 11 → dyN (cnC S.1 S.2.2.2.1 S.2.1 S.2.2.2.2.1.1 S.2.2.2.2.1.2.1 S.2.2.2.2.1.2.2.1 S.2.2.2.2.1.2.2.2.1 S.2.2.2.2.1.2.2.2.2) h k = syN S.1 f A h k
  | 0, _ => rfl
  | k + 1, hk => by
    rw [dyN, syN, dyN_rel hR h (show k ≤ 11 by omega), cn_rel hR]
    unfold couM
    rw [if_pos (inI_j (by omega) (by omega) (by decide)), nI_clamp (by omega)]
theorem p_digest {sk : Nat} {sh : Nat → Nat} {z : Int64} (hi : i ≤ 2048) (hR : Rel i S f A) (hsk : S.2.2.2.2.1.1 = nI sk) (hk6 : sk ≤ 6) (hsh : ∀ k, k < sk → A 21 (3 * k) = nI (sh k) ∧ sh k < 6) (hs : ∀ j, j < sk → sh j < tN S.1 ∧ S.2.2.2.2.1.2.1 6 j = nI (sh j) ∧ S.2.2.2.2.1.2.1 7 j = A 21 (3 * j + 1) ∧ S.2.2.2.2.1.2.1 8 j = A 21 (3 * j + 2) ∧ (A 21 (3 * j + 2) = nI 0 ∨ A 21 (3 * j + 2) = nI 1)) (hX : rX_digest S sk z S') : Cn l E yX11_digest wsX11_digest (rmL 6 0 0) [.ref (a 32)] (mC E a f hh A ++ tl) 0 0 (fun v w => v = some (.long z) ∧ ∃ (f' : gF) (hh' : Int64) (A' : gA), w = mC E a f' hh' A' ++ tl ∧ Rel (i + 4) S' f' A') := by
  have h20 : f 20 = nI sk := by rw [← hsk]; exact hR.2.2.2.2.1.2.2.2.1.symm
  obtain ⟨T, n, pf, g, ⟨sn, B, kp, km, ku⟩, K, U, R⟩ := S
  have es : sn = nI sk := hsk
  subst es
  refine Cn.mono (c_X11_digest l E a f hh A tl T hR.2.1 hR.1.1 hR.2.2.1 hR.1 sk h20 hk6 sh hsh hR.2.2.2.2.1.2.2.2.2.1 (fun _ => lb_ne hi hR) n hR.2.2.2.1.2.1 hR.2.2.2.1.1) fun v w h => ?_
  obtain ⟨h1, f', A', h2, h3, h4⟩ := h
  obtain ⟨g', z1, z2, z3, z4, z5, r1, r2, r3, r4, r5, r6, e1, e2, e3, e4, e5⟩ := hX
  have hS : Rel (i + 4) S' f A := (hR.sc (S' := S') (by rw [e5]) (by rw [e5]) (by rw [e5]) (by rw [e5]; exact e2) (by rw [e5]; exact e3) (by rw [e5]; exact e4) (by rw [e5]) (by rw [e5])).up
  refine ⟨?_, f', _, A', h2, hS.kp h3 h4⟩
  have k1 := dyN_rel hR (syP pf (dyT T (B, kp, km, ku) sk (dfC T true true 7 (shN (B 2)) kp km ku (nI 0) 0 R.2.1 (ac0 R.2.2.1))) n) (Nat.le_refl 11)
  have k2 := dyT_rel hi hR R.2.1 R.2.2.1 hs
  have k3 : syP pf (dgT T f A sh sk) n = syP (A 0) (dgT T f A sh sk) n := syP_cong (fun j hj => ((hR.2.2.2.1.2.2 j hj).1).symm)
  rw [h1]
  refine congrArg (fun z => some (Value.long z)) ?_
  rw [show z = _ from e1]
  refine Eq.trans ?_ k1.symm
  show _ = syN T f A (syP pf (dyT T (B, kp, km, ku) sk (dfC T true true 7 (shN (B 2)) kp km ku (nI 0) 0 R.2.1 (ac0 R.2.2.1))) n) 11
  rw [show dyT T (B, kp, km, ku) sk (dfC T true true 7 (shN (B 2)) kp km ku (nI 0) 0 R.2.1 (ac0 R.2.2.1)) = dgT T f A sh sk from k2, k3]
end TIE3
