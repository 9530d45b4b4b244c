section TIE2
variable {l : Launch} {E : gEnv} {a : Nat → Nat} {f : gF} {hh : Int64} {A : gA} {tl : va_W} {i : Nat} {S S' : gSt} {y x1 x2 x3 : Int32}
/-! the town is read -/
theorem twJ_at (p r : Nat → Int32) (i : Nat) : ∀ j, twJ p r i j (8 * i) = kbF (p (5 * i)) ∧ (∀ k, 1 ≤ k → k ≤ j → twJ p r i j (8 * i + k) = p (5 * i + k) - nI 48) ∧ ∀ k, k < 8 * i ∨ 8 * i + j < k → twJ p r i j k = r k
  | 0 => ⟨pk_us, fun k h1 h2 => by omega, fun k hk => pk_un (by omega)⟩
  | j + 1 => by
    obtain ⟨h1, h2, h3⟩ := twJ_at p r i j
    refine ⟨?_, fun k k1 k2 => ?_, fun k hk => ?_⟩
    · rw [twJ, pk_un (by omega)]; exact h1
    · rw [twJ]
      by_cases w : k = j + 1
      · subst w; exact pk_us
      · rw [pk_un (by omega)]; exact h2 k k1 (by omega)
    · rw [twJ, pk_un (by omega)]; exact h3 k (by omega)
theorem twR_at (p r : Nat → Int32) : ∀ i, ∀ h, h < i → twR p r i (8 * h) = kbF (p (5 * h)) ∧ twR p r i (8 * h + 1) = p (5 * h + 1) - nI 48 ∧ twR p r i (8 * h + 2) = p (5 * h + 2) - nI 48 ∧ twR p r i (8 * h + 3) = p (5 * h + 3) - nI 48 ∧ twR p r i (8 * h + 4) = (-1) ∧ twR p r i (8 * h + 5) = (-1) ∧ twR p r i (8 * h + 6) = nI 0 ∧ twR p r i (8 * h + 7) = nI 0
  | 0, h, hh => absurd hh (Nat.not_lt_zero h)
  | i + 1, h, hh => by
    obtain ⟨j1, j2, j3⟩ := twJ_at p (twR p r i) i 3
    have e : twR p r (i + 1) = upd (upd (upd (upd (twJ p (twR p r i) i 3) (8 * i + 4) (-1)) (8 * i + 5) (-1)) (8 * i + 6) (nI 0)) (8 * i + 7) (nI 0) := rfl
    rw [e]
    rcases Nat.lt_or_ge h i with w | w
    · have lo : ∀ k, k < 8 * i → upd (upd (upd (upd (twJ p (twR p r i) i 3) (8 * i + 4) (-1)) (8 * i + 5) (-1)) (8 * i + 6) (nI 0)) (8 * i + 7) (nI 0) k = twR p r i k := fun k hk => by
        rw [pk_un (by omega), pk_un (by omega), pk_un (by omega), pk_un (by omega), j3 k (Or.inl hk)]
      rw [lo _ (by omega), lo _ (by omega), lo _ (by omega), lo _ (by omega), lo _ (by omega), lo _ (by omega), lo _ (by omega), lo _ (by omega)]
      exact twR_at p r i h w
    · obtain rfl : h = i := by omega
      have hi : ∀ k, k < 4 → upd (upd (upd (upd (twJ p (twR p r h) h 3) (8 * h + 4) (-1)) (8 * h + 5) (-1)) (8 * h + 6) (nI 0)) (8 * h + 7) (nI 0) (8 * h + k) = twJ p (twR p r h) h 3 (8 * h + k) := fun k hk => by
        rw [pk_un (by omega), pk_un (by omega), pk_un (by omega), pk_un (by omega)]
      refine ⟨(hi 0 (by omega)).trans j1, (hi 1 (by omega)).trans (j2 1 (by omega) (by omega)), (hi 2 (by omega)).trans (j2 2 (by omega) (by omega)), (hi 3 (by omega)).trans (j2 3 (by omega) (by omega)), ?_, ?_, ?_, ?_⟩
      · rw [pk_un (by omega), pk_un (by omega), pk_un (by omega), pk_us]
      · rw [pk_un (by omega), pk_un (by omega), pk_us]
      · rw [pk_un (by omega), pk_us]
      · rw [pk_us]
theorem twT_ok {pf : Nat → Int32} {n : Nat} (hn : n ≤ 30) (h5 : n % 5 = 4) (hf : ftF pf n 31 0 = n) (ad : Nat → Nat) : okT (twT pf (kfP pf) ((n + 1) / 5) ad) := by
  refine ⟨by show (n + 1) / 5 ≤ 6; omega, fun h hh => ?_⟩
  have hh2 : h < (n + 1) / 5 := hh
  have g := fun k hk => ftF_all hf (by omega) k (by omega) (show k < n from hk)
  have g1 := g (5 * h + 1) (by omega)
  have g2 := g (5 * h + 2) (by omega)
  have g3 := g (5 * h + 3) (by omega)
  rw [gdF_1 (by omega)] at g1
  rw [gdF_2 (by omega)] at g2
  rw [gdF_3 (by omega)] at g3
  obtain ⟨a1, -, a3, a4⟩ := inI_nat (by decide) (by decide) g1
  obtain ⟨b1, b2, b3, b4⟩ := inI_nat (by decide) (by decide) g2
  obtain ⟨c1, c2, c3, c4⟩ := inI_nat (by decide) (by decide) g3
  exact ⟨(kfP_ok hn hf h (by omega)).1, ⟨a1, a3, a4⟩, ⟨b1, b2, b3, b4⟩, ⟨c1, c2, c3, c4⟩⟩
theorem p_town {X : va_W} {tl' : va_W} (hR : Rel i S f A) (hX : rX_town S y S' tl' X) : Cn l E yX11_town wsX11_town (rmL 3 0 0) [.ref (a 32)] (mC E a f hh A ++ tl) 0 0 (MP E a tl i y S') := Cn.mono (c_X11_town l E a f hh A tl S.2.1 hR.2.2.2.1.2.1 hR.2.2.2.1.1) fun v w h => by
  obtain ⟨T, n, pf, g, ⟨sn, B, kp, km, ku⟩, K, U, R⟩ := S
  have p1 : n ≤ 30 := hR.2.2.2.1.1
  have p3 : ∀ j, j < n → A 0 j = pf j ∧ ∃ c, c < 127 ∧ pf j = nI c := hR.2.2.2.1.2.2
  have ef : ftF (A 0) n 31 0 = ftF pf n 31 0 := ftF_cong (fun j hj => (p3 j hj).1) 31 0
  have el : ftF pf n 31 0 ≤ n := ftF_len (by omega)
  rcases h with ⟨c, rfl, rfl⟩ | ⟨c, rfl, rfl⟩
  · have c' : ftF (A 0) n 31 0 < n ∨ n % 5 ≠ 4 ∨ n < 14 := c
    rw [ef] at c'
    rcases hX with ⟨-, rfl, rfl, -⟩ | ⟨d, -⟩
    · exact ⟨rfl, f, hh, A, rfl, hR.up⟩
    · have d' : n % 5 = 4 ∧ 14 ≤ n ∧ ftF pf n 31 0 = n := d
      omega
  · have c' : ¬ (ftF (A 0) n 31 0 < n ∨ n % 5 ≠ 4 ∨ n < 14) := c
    rw [ef] at c'
    have c1 : n % 5 = 4 := by omega
    have c2 : 14 ≤ n := by omega
    have c3 : ftF pf n 31 0 = n := by omega
    rcases hX with ⟨d, -⟩ | ⟨-, ad, rfl, rfl, -⟩
    · exact absurd ⟨c1, c2, c3⟩ d
    · obtain ⟨hO, h2, h3, h4, h5, ⟨cc, i1, i2, i3, i4⟩, h7⟩ := hR
      have en : n / 5 + 1 = (n + 1) / 5 := by omega
      refine ⟨by show some (Value.int (nI (n / 5 + 1))) = some (Value.int (nI ((n + 1) / 5))); rw [en], _, hh, _, rfl, twT_ok p1 c1 c3 ad, ?_, ?_, ⟨by show 0 ≤ 30; omega, rfl, fun j hj => absurd hj (Nat.not_lt_zero j)⟩, ?_, ?_, h7⟩
      · show nI (n / 5 + 1) = nI ((n + 1) / 5)
        rw [en]
      · show rowsOf (twR (A 0) (A 7) (n / 5 + 1)) _
        rw [en]
        intro h hh2
        have hh3 : h < (n + 1) / 5 := hh2
        obtain ⟨t0, t1, t2, t3, -⟩ := twR_at (A 0) (A 7) ((n + 1) / 5) h hh3
        rw [t0, t1, t2, t3, (p3 (5 * h) (by omega)).1, (p3 (5 * h + 1) (by omega)).1, (p3 (5 * h + 2) (by omega)).1, (p3 (5 * h + 3) (by omega)).1]
        exact ⟨(kfP_ok p1 c3 h (by omega)).2, rfl, rfl, rfl⟩
      · show nRel (twT pf (kfP pf) ((n + 1) / 5) ad) (1000 + 4 * (i + 4)) (nI 0, bgB B, nI 0, nI 0, nI 0) (twR (A 0) (A 7) (n / 5 + 1)) (A 21) (nI 0) (nI 0) (nI 0) (nI 0)
        rw [en]
        refine ⟨rfl, rfl, rfl, rfl, ⟨0, by omega, rfl⟩, ⟨0, 0, rfl, rfl, by omega, by omega⟩, ⟨0, fun _ => 0, by omega, rfl, fun j hj => absurd hj (Nat.not_lt_zero j)⟩, fun h hh2 => ?_, fun h _ _ => ⟨rfl, rfl, rfl⟩, ?_⟩
        · have hh3 : h < (n + 1) / 5 := hh2
          obtain ⟨-, -, -, -, t4, t5, t6, t7⟩ := twR_at (A 0) (A 7) ((n + 1) / 5) h hh3
          rw [t4, t5, t6, t7]
          exact ⟨rfl, rfl, rfl, rfl, Or.inl rfl⟩
        · exact h5.2.2.2.2.2.2.2.2.2
      · refine ⟨cc + 1, by omega, ?_, ?_, Or.inl ⟨rfl, ?_⟩⟩
        · show g 7 + nI 1 = nI (cc + 1)
          rw [show g 7 = nI cc from i2, nI_add]
        · show f 6 + nI 1 = nI (cc + 1)
          rw [i3, nI_add]
        · show f 24 = (-1) ∨ ∃ c', c' < cc + 1 ∧ f 24 = nI c'
          rcases i4 with ⟨-, q⟩ | ⟨-, q, -⟩
          · rcases q with q | ⟨c', q1, q2⟩
            · exact Or.inl q
            · exact Or.inr ⟨c', by omega, q2⟩
          · exact Or.inr ⟨cc, by omega, q⟩
/-! one is opened -/
theorem mo_eq {T : gTown} {B : Nat → Nat → Int32} {r : Nat → Int32} {h : Nat} (hO : okT T) (hh : h < tN T) (e : shN (B 2) = shB T r) : (outB (B 2) h && bitB (mayB (mwB T 6) (wtB (B 2) 6)) h) = mayS T (shB T r) h := by
  have h6 := hO.1
  rw [shN_wt, e, mayB_wb]
  have e1 : bitB (wb (mayS T (shB T r)) 6) h = mayS T (shB T r) h := wb_bit _ (by omega)
  rw [e1]
  cases q : mayS T (shB T r) h with
  | false => rw [Bool.and_false]
  | true =>
    have := mayS_sub q
    rw [← e] at this
    unfold shN at this
    rw [Bool.and_eq_true] at this
    rw [this.1]; rfl
theorem p_open (hi : i ≤ 2048) (hR : Rel i S f A) (hX : rX_open S x1 y S') : Cn l E yX11_open wsX11_open (rmL 2 0 0) [.ref (a 32), .int x1] (mC E a f hh A ++ tl) 0 0 (MP E a tl i y S') := Cn.mono (c_X11_open l E a f hh A tl S.1 hR.2.1 hR.1.1 hR.2.2.1 hR.1 hR.2.2.2.2.1.2.2.2.2.1 x1) fun v w h => by
  obtain ⟨T, n, pf, g, ⟨sn, B, kp, km, ku⟩, K, U, R⟩ := S
  have hO : okT T := hR.1
  have h66 := hO.1
  have esh : shN (B 2) = shB T (A 7) := hR.2.2.2.2.1.sh hO
  rcases h with ⟨c, rfl, rfl⟩ | ⟨h, c1, rfl, c2, rfl, rfl⟩ | ⟨h, c1, rfl, c2, rfl, f', hk, rfl⟩
  · rcases hX with ⟨-, rfl, rfl⟩ | ⟨h', d1, rfl, -⟩ | ⟨h', d1, rfl, -⟩
    · exact ⟨rfl, f, hh, A, rfl, hR.up⟩
    · rw [hsB_t hO.1 d1] at c; exact absurd c (by decide)
    · rw [hsB_t hO.1 d1] at c; exact absurd c (by decide)
  · rcases hX with ⟨d, -⟩ | ⟨h', d1, d2, d3, rfl, rfl⟩ | ⟨h', d1, d2, d3, -⟩
    · have d' : hsB (tN T) (nI h) = false := d
      rw [hsB_t hO.1 c1] at d'; exact absurd d' (by decide)
    · exact ⟨rfl, f, hh, A, rfl, hR.up⟩
    · have e : h = h' := (nI_eq (by have : h < tN T := c1; omega) (by have : h' < tN T := d1; omega)).mp d2
      subst e
      have d3' : (outB (B 2) h && bitB (mayB (mwB T 6) (wtB (B 2) 6)) h) = true := d3
      rw [mo_eq hO c1 esh, c2] at d3'
      exact absurd d3' (by decide)
  · rcases hX with ⟨d, -⟩ | ⟨h', d1, d2, d3, -⟩ | ⟨h', d1, d2, d3, rfl, rfl⟩
    · have d' : hsB (tN T) (nI h) = false := d
      rw [hsB_t hO.1 c1] at d'; exact absurd d' (by decide)
    · have e : h = h' := (nI_eq (by have : h < tN T := c1; omega) (by have : h' < tN T := d1; omega)).mp d2
      subst e
      have d3' : (outB (B 2) h && bitB (mayB (mwB T 6) (wtB (B 2) 6)) h) = false := d3
      rw [mo_eq hO c1 esh, c2] at d3'
      exact absurd d3' (by decide)
    · have e : h = h' := (nI_eq (by have : h < tN T := c1; omega) (by have : h' < tN T := d1; omega)).mp d2
      subst e
      have c1' : h < tN T := c1
      obtain ⟨-, h2, h3, h4, ⟨a1, a2, a3, a4, a5, ⟨mm, uu, m1, m2, m3, m4⟩, a7, a8, a9, a10⟩, h6, h7⟩ := hR
      have a1' : kp = f 3 := a1
      have a2' : km = f 5 := a2
      have a3' : ku = f 4 := a3
      have eb : opB T f h = brg (tK T h) (tP T h) kp km ku := by unfold opB; rw [a1', a2', a3']
      obtain ⟨p0, hp0, ep0⟩ := a5
      obtain ⟨q0, hq0, eq0⟩ := (hO.2 h c1).2.1
      have hbd : mm ≤ 100000 := by omega
      obtain ⟨m', b1, b2, b3⟩ := brg_nI (k := tK T h) hq0 hp0 hbd (show uu ≤ 100000 by omega)
      have ebm : opB T f h = nI m' := by unfold opB; rw [show tP T h = nI q0 from eq0, ep0, m1, m2, b1]
      obtain ⟨u', u1, u2⟩ := kpu_nI (tK T h) m'
      refine ⟨by show some (Value.int (opB T f h)) = _; rw [eb], f', hh, _, rfl, ?_⟩
      refine Rel.kp (f := opF T f h) (A := va_up A 7 (opR T f (A 7) h)) ?_ hk (kpA_r _)
      refine ⟨hO, h2, ?_, h4, ?_, h6.up, h7⟩
      · show rowsOf (opR T f (A 7) h) T
        exact rows_up (by omega) (rows_up (by omega) (rows_up (by omega) h3))
      · show nRel T (1000 + 4 * (i + 4)) (sn, liB T B kp km ku h, tP T h, brg (tK T h) (tP T h) kp km ku, kpu (tK T h) (brg (tK T h) (tP T h) kp km ku)) (opR T f (A 7) h) (A 21) (tP T h) (opB T f h) (kpu (tK T h) (opB T f h)) (f 20)
        refine ⟨rfl, eb.symm, by rw [eb], a4, ⟨q0, hq0, eq0⟩, ⟨m', u', ebm, by rw [ebm]; exact u1, by omega, u2⟩, a7, fun j hj => ?_, fun j hj1 hj2 => ?_, a10⟩
        · obtain ⟨s1, s2, s3, s4, s5⟩ := a8 j hj
          show upd (B 2) h (-1) j = opR T f (A 7) h (8 * j + 4) ∧ upd (B 3) h (brg (tK T h) (tP T h) kp km ku) j = opR T f (A 7) h (8 * j + 5) ∧ upd (B 4) h (B 4 h + ltA (tK T h) (tL T h) (tE T h) (brg (tK T h) (tP T h) kp km ku)) j = opR T f (A 7) h (8 * j + 6) ∧ B 5 j = opR T f (A 7) h (8 * j + 7) ∧ (upd (B 2) h (-1) j = (-1) ∨ ∃ q, q ≤ 1000 + 4 * (i + 4) ∧ upd (B 2) h (-1) j = nI q)
          unfold opR
          rw [eb]
          by_cases w : j = h
          · subst w
            rw [pk_us, pk_us, pk_us, pk_un (show 8 * j + 4 ≠ 8 * j + 5 by omega), pk_us, pk_un (show 8 * j + 6 ≠ 8 * j + 5 by omega), pk_un (show 8 * j + 6 ≠ 8 * j + 4 by omega), pk_us, pk_us, pk_un (show 8 * j + 7 ≠ 8 * j + 5 by omega), pk_un (show 8 * j + 7 ≠ 8 * j + 4 by omega), pk_un (show 8 * j + 7 ≠ 8 * j + 6 by omega)]
            exact ⟨rfl, rfl, by rw [show B 4 j = A 7 (8 * j + 6) from s3], s4, Or.inl rfl⟩
          · have un : ∀ (x y : Nat) (rr : Nat → Int32) (vv : Int32), 4 ≤ x → x ≤ 7 → 4 ≤ y → y ≤ 7 → upd rr (8 * h + x) vv (8 * j + y) = rr (8 * j + y) := fun x y rr vv _ _ _ _ => pk_un (by omega)
            rw [pk_un w, pk_un w, pk_un w]
            rw [un 5 4 _ _ (by omega) (by omega) (by omega) (by omega), un 4 4 _ _ (by omega) (by omega) (by omega) (by omega), un 6 4 _ _ (by omega) (by omega) (by omega) (by omega)]
            rw [un 5 5 _ _ (by omega) (by omega) (by omega) (by omega), un 4 5 _ _ (by omega) (by omega) (by omega) (by omega), un 6 5 _ _ (by omega) (by omega) (by omega) (by omega)]
            rw [un 5 6 _ _ (by omega) (by omega) (by omega) (by omega), un 4 6 _ _ (by omega) (by omega) (by omega) (by omega), un 6 6 _ _ (by omega) (by omega) (by omega) (by omega)]
            rw [un 5 7 _ _ (by omega) (by omega) (by omega) (by omega), un 4 7 _ _ (by omega) (by omega) (by omega) (by omega), un 6 7 _ _ (by omega) (by omega) (by omega) (by omega)]
            refine ⟨s1, s2, s3, s4, ?_⟩
            rcases s5 with z | ⟨q, hq, z⟩
            · exact Or.inl z
            · exact Or.inr ⟨q, by omega, z⟩
        · obtain ⟨s1, s2, s3⟩ := a9 j hj1 hj2
          show upd (B 2) h (-1) j = (-1) ∧ upd (B 4) h (B 4 h + ltA (tK T h) (tL T h) (tE T h) (brg (tK T h) (tP T h) kp km ku)) j = nI 0 ∧ B 5 j = nI 0
          rw [pk_un (show j ≠ h by omega), pk_un (show j ≠ h by omega)]
          exact ⟨s1, s2, s3⟩
/-! night falls -/
theorem fl_tie {T : gTown} {B : Nat → Nat → Int32} {r : Nat → Int32} (hb : ∀ h, h < tN T → B 2 h = r (8 * h + 4) ∧ B 5 h = r (8 * h + 7)) : ∀ {i : Nat}, i ≤ tN T → (∀ h, h < tN T → flS (B 2) i h = ngR T r i (8 * h + 4) ∧ flO T (B 2) (B 5) i h = ngR T r i (8 * h + 7)) ∧ flA T (B 2) i = ngS T r i ∧ (∀ k, (k % 8 = 5 ∨ k % 8 = 6) → ngR T r i k = r k) ∧ (∀ h, i ≤ h → flS (B 2) i h = B 2 h ∧ flO T (B 2) (B 5) i h = B 5 h) ∧ ∀ h, h < i → flS (B 2) i h = (-1) ∨ flS (B 2) i h = nI 0
  | 0, _ => ⟨fun h hh => hb h hh, rfl, fun _ _ => rfl, fun _ _ => ⟨rfl, rfl⟩, fun h hh => absurd hh (Nat.not_lt_zero h)⟩
  | i + 1, hi => by
    obtain ⟨h1, h2, h3, h4, h5⟩ := fl_tie hb (show i ≤ tN T by omega)
    obtain ⟨e4, e7⟩ := h1 i (by omega)
    have eo : outB (sF (ngR T r i)) i = outB (flS (B 2) i) i := by unfold outB sF; rw [e4]
    have eN : ngR T r (i + 1) = upd (upd (ngR T r i) (8 * i + 7) (ngR T r i (8 * i + 7) + ngO T (ngR T r i) i)) (8 * i + 4) (if outB (sF (ngR T r i)) i then nI 0 else (-1)) := rfl
    have eS : ngS T r (i + 1) = ngS T r i + ngO T (ngR T r i) i := rfl
    have eF : flS (B 2) (i + 1) = if outB (flS (B 2) i) i then upd (flS (B 2) i) i (nI 0) else flS (B 2) i := rfl
    have eG : flO T (B 2) (B 5) (i + 1) = if outB (flS (B 2) i) i then upd (flO T (B 2) (B 5) i) i (flO T (B 2) (B 5) i i + slp (tK T i) (tE T i)) else flO T (B 2) (B 5) i := rfl
    have eA : flA T (B 2) (i + 1) = if outB (flS (B 2) i) i then flA T (B 2) i + slp (tK T i) (tE T i) else flA T (B 2) i := rfl
    rw [eN, eS, eF, eG, eA]
    unfold ngO
    rw [eo]
    cases q : outB (flS (B 2) i) i with
    | true =>
      simp only [if_true]
      refine ⟨fun h hh => ?_, by rw [h2], fun k hk => ?_, fun h hh => ?_, fun h hh => ?_⟩
      · by_cases w : h = i
        · subst w
          rw [pk_us, pk_us, pk_us, pk_un (by omega), pk_us, e7]
          exact ⟨rfl, rfl⟩
        · rw [pk_un w, pk_un w, pk_un (by omega), pk_un (by omega), pk_un (by omega), pk_un (by omega)]
          exact h1 h hh
      · rw [pk_un (by omega), pk_un (by omega)]; exact h3 k hk
      · rw [pk_un (by omega), pk_un (by omega)]; exact h4 h (by omega)
      · by_cases w : h = i
        · subst w; rw [pk_us]; exact Or.inr rfl
        · rw [pk_un w]; exact h5 h (by omega)
    | false =>
      simp only [Bool.false_eq_true, if_false]
      have em : flS (B 2) i i = (-1) := outB_f q
      refine ⟨fun h hh => ?_, by rw [h2]; exact (Int32.add_zero _).symm, fun k hk => ?_, fun h hh => h4 h (by omega), fun h hh => ?_⟩
      · by_cases w : h = i
        · subst w
          rw [pk_us, pk_un (by omega), pk_us, ← e7]
          exact ⟨em, (Int32.add_zero _).symm⟩
        · rw [pk_un (by omega), pk_un (by omega), pk_un (by omega), pk_un (by omega)]
          exact h1 h hh
      · rw [pk_un (by omega), pk_un (by omega)]; exact h3 k hk
      · by_cases w : h = i
        · subst w; exact Or.inl em
        · exact h5 h (by omega)
theorem p_night (hR : Rel i S f A) (hX : rX_night S y S') : Cn l E yX11_night wsX11_night (rmL 2 0 0) [.ref (a 32)] (mC E a f hh A ++ tl) 0 0 (MP E a tl i y S') := Cn.mono (c_X11_night l E a f hh A tl S.1 hR.2.1 hR.1.1 hR.2.2.1 hR.1) fun v w h => by
  obtain ⟨T, n, pf, g, ⟨sn, B, kp, km, ku⟩, K, U, R⟩ := S
  rcases h with ⟨c, rfl, rfl⟩ | ⟨c, rfl, rfl⟩
  · rcases hX with ⟨-, rfl, rfl⟩ | ⟨d, -⟩
    · exact ⟨rfl, f, hh, A, rfl, hR.up⟩
    · exact absurd c d
  · rcases hX with ⟨d, -⟩ | ⟨-, rfl, rfl⟩
    · exact absurd d c
    · obtain ⟨hO, h2, h3, h4, ⟨a1, a2, a3, a4, a5, a6, a7, a8, a9, a10⟩, h6, h7⟩ := hR
      obtain ⟨t1, t2, t3, t4, t5⟩ := fl_tie (B := B) (r := A 7) (fun h hh => ⟨(a8 h hh).1, (a8 h hh).2.2.2.1⟩) (Nat.le_refl (tN T))
      refine ⟨by show some (Value.int (ngS T (A 7) (tN T))) = _; rw [← t2], _, hh, _, rfl, hO, h2, ngR_rows h3 _, h4, ?_, h6.up, h7⟩
      show nRel T (1000 + 4 * (i + 4)) (sn, va_up (va_up B 2 (flS (B 2) (tN T))) 5 (flO T (B 2) (B 5) (tN T)), kp, nI 0, nI 0) (ngR T (A 7) (tN T)) (A 21) (f 3) (nI 0) (nI 0) (f 20)
      refine ⟨a1, rfl, rfl, a4, a5, ⟨0, 0, rfl, rfl, by omega, by omega⟩, a7, fun h hh => ?_, fun h hh1 hh2 => ?_, a10⟩
      · obtain ⟨s1, s2, s3, s4, s5⟩ := a8 h hh
        show flS (B 2) (tN T) h = _ ∧ B 3 h = _ ∧ B 4 h = _ ∧ flO T (B 2) (B 5) (tN T) h = _ ∧ (flS (B 2) (tN T) h = (-1) ∨ ∃ q, q ≤ 1000 + 4 * (i + 4) ∧ flS (B 2) (tN T) h = nI q)
        rw [t3 (8 * h + 5) (by omega), t3 (8 * h + 6) (by omega)]
        refine ⟨(t1 h hh).1, s2, s3, (t1 h hh).2, ?_⟩
        rcases t5 h hh with z | z
        · exact Or.inl z
        · exact Or.inr ⟨0, by omega, z⟩
      · obtain ⟨s1, s2, s3⟩ := a9 h hh1 hh2
        show flS (B 2) (tN T) h = (-1) ∧ B 4 h = nI 0 ∧ flO T (B 2) (B 5) (tN T) h = nI 0
        rw [(t4 h hh1).1, (t4 h hh1).2]
        exact ⟨s1, s2, s3⟩
end TIE2
