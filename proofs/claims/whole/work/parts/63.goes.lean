/-! next and going by a law: class and reference -/
theorem nx_tie {c : Nat → Bool} {rk rk' : Nat → Int32} (h : ∀ i, c i = true → rk i = rk' i ∧ rk i < mxI) : ∀ {i : Nat}, i ≤ 6 → ((nxR (wb c 6) rk' i).1 = (-1) ∧ nxL (wb c 6) rk i = ((-1), mxI)) ∨ (nxL (wb c 6) rk i = nxR (wb c 6) rk' i ∧ ¬ (nxR (wb c 6) rk' i).1 = (-1))
  | 0, _ => Or.inl ⟨rfl, rfl⟩
  | i + 1, hi => by
    have ih := nx_tie h (show i ≤ 6 by omega)
    have e := wb_bitI c (show i < 6 by omega)
    unfold nxR nxL
    by_cases q : c i = true
    · have q1 := e.mpr q
      rw [if_pos q1]
      rcases ih with ⟨h1, h2⟩ | ⟨h1, h2⟩
      · rw [if_pos (Or.inl h1), h2, if_pos ⟨q1, (h i q).2⟩, (h i q).1]
        exact Or.inr ⟨rfl, nI_m1 (by omega)⟩
      · rw [h1, (h i q).1]
        by_cases w : rk' i < (nxR (wb c 6) rk' i).2
        · rw [if_pos (Or.inr w), if_pos ⟨q1, w⟩]
          exact Or.inr ⟨rfl, nI_m1 (by omega)⟩
        · rw [if_neg (fun z => z.elim h2 w), if_neg (fun z => w z.2)]
          exact Or.inr ⟨rfl, h2⟩
    · rw [if_neg (fun z => q (e.mp z)), if_neg (fun z => q (e.mp z.1))]
      exact ih
theorem rk_lt {T : gTown} {lw : Nat} {f : Nat → Int32} {kp : Int32} {i q : Nat} (hO : okT T) (hi : i < tN T) (hp : okP kp) (hq : q ≤ 20000) (hf : f i = nI q) : rkF T lw f kp i < mxI := by
  unfold rkF
  split
  · rw [hf]; exact ltMx (by omega)
  · obtain ⟨a, ha, e1⟩ := hp
    obtain ⟨b, hb, e2⟩ := (hO.2 i hi).2.1
    rw [e1, e2, ab_nI ha hb]; exact ltMx (by omega)
  · obtain ⟨b, -, hb, e2⟩ := (hO.2 i hi).2.2.1
    rw [e2]; exact ltMx (by omega)
theorem rk_eq {T : gTown} {lw : Nat} {f s : Nat → Int32} {kp : Int32} {i : Nat} (h : f i = s i) : rkF T lw f kp i = rkF T lw s kp i := by
  unfold rkF
  split
  · exact h
  · rfl
  · rfl
theorem nxB_S {T : gTown} {lw : Nat} {f s : Nat → Int32} {b : Nat → Bool} {kp : Int32} (hO : okT T) (hp : okP kp) (hb : shN f = b) (hs : ∀ j, b j = true → j < tN T ∧ f j = s j ∧ ∃ q, q ≤ 20000 ∧ f j = nI q) : nxB T lw f kp = nxS T lw s b kp := by
  unfold nxB nxS
  rw [shN_wt, hb, mayB_wb, myM_wb hO.1]
  rcases nx_tie (c := mayS T b) (rk := rkF T lw f kp) (rk' := rkF T lw s kp) (fun i hi => by
    obtain ⟨h1, h2, q, h3, h4⟩ := hs i (mayS_sub hi)
    exact ⟨rk_eq h2, rk_lt hO h1 hp h3 h4⟩) (show tN T ≤ 6 from hO.1) with ⟨h1, h2⟩ | ⟨h1, -⟩
  · rw [h1, h2]
  · rw [h1]
theorem sumB_upd {f : Nat → Int32} {h : Nat} {t : Int32} : ∀ {n : Nat}, sumB (upd f h (f h + t)) n = if h < n then sumB f n + t else sumB f n
  | 0 => by rw [if_neg (Nat.not_lt_zero h)]; rfl
  | n + 1 => by
    rw [sumB, sumB, sumB_upd]
    by_cases q : h = n
    · subst q
      rw [if_neg (Nat.lt_irrefl h), if_pos (Nat.lt_succ_self h), pk_us, ← Int32.add_assoc]
    · rw [pk_un (Ne.symm q)]
      by_cases q2 : h < n
      · rw [if_pos q2, if_pos (by omega), Int32.add_assoc, Int32.add_comm t, ← Int32.add_assoc]
      · rw [if_neg q2, if_neg (by omega)]
theorem shN_clr (f : Nat → Int32) (h : Nat) : shN (upd f h (-1)) = clr (shN f) h := funext fun j => by
  unfold shN clr outB
  by_cases q : j = h
  · subst q; rw [pk_us]; simp
  · rw [pk_un q, decide_eq_false q]; simp
/-- a night of the class that goes, and the reference's going -/
def gR (T : gTown) (s : Nat → Int32) (c0 : Int32) (Q : Prop) (N : gNt) (x : gGo) : Prop := N.2.1 = x.2.1 ∧ N.2.2.1 = x.2.2.1 ∧ N.2.2.2 = x.2.2.2.1 ∧ shN (N.1 2) = x.1 ∧ (∀ j, x.1 j = true → j < tN T ∧ N.1 2 j = s j ∧ ∃ q, q ≤ 20000 ∧ N.1 2 j = nI q) ∧ sumB (N.1 4) 6 = c0 + x.2.2.2.2.1 ∧ (Q → ∀ j, j < 6 → N.1 3 j = x.2.2.2.2.2 j) ∧ okP x.2.1
theorem gR_step {T : gTown} {s : Nat → Int32} {c0 : Int32} {Q : Prop} {N : gNt} {x : gGo} {h : Nat} (hO : okT T) (hR : gR T s c0 Q N x) (hh : x.1 h = true) : gR T s c0 Q (liN T N h) (stpR T h x) := by
  obtain ⟨h1, h2, h3, h4, h5, h6, h7, h8⟩ := hR
  have hlt := (h5 h hh).1
  have hb : brg (tK T h) (tP T h) N.2.1 N.2.2.1 N.2.2.2 = brg (tK T h) (tP T h) x.2.1 x.2.2.1 x.2.2.2.1 := by rw [h1, h2, h3]
  refine ⟨rfl, hb, ?_, ?_, ?_, ?_, ?_, (hO.2 h hlt).2.1⟩
  · show kpu (tK T h) (brg (tK T h) (tP T h) N.2.1 N.2.2.1 N.2.2.2) = kpu (tK T h) (brg (tK T h) (tP T h) x.2.1 x.2.2.1 x.2.2.2.1)
    rw [hb]
  · show shN (upd (N.1 2) h (-1)) = clr x.1 h
    rw [shN_clr, h4]
  · intro j hj
    have hj2 : (x.1 j && !decide (j = h)) = true := hj
    rw [Bool.and_eq_true] at hj2
    have hne : j ≠ h := by simpa using hj2.2
    obtain ⟨a1, a2, a3⟩ := h5 j hj2.1
    have e : (liN T N h).1 2 j = N.1 2 j := by show upd (N.1 2) h (-1) j = _; rw [pk_un hne]
    rw [e]
    exact ⟨a1, a2, a3⟩
  · show sumB (upd (N.1 4) h (N.1 4 h + ltA (tK T h) (tL T h) (tE T h) (brg (tK T h) (tP T h) N.2.1 N.2.2.1 N.2.2.2))) 6 = c0 + (x.2.2.2.2.1 + ltA (tK T h) (tL T h) (tE T h) (brg (tK T h) (tP T h) x.2.1 x.2.2.1 x.2.2.2.1))
    rw [sumB_upd, if_pos (by have := hO.1; omega), h6, hb, Int32.add_assoc]
  · intro hQ j hj
    show upd (N.1 3) h (brg (tK T h) (tP T h) N.2.1 N.2.2.1 N.2.2.2) j = upd x.2.2.2.2.2 h (brg (tK T h) (tP T h) x.2.1 x.2.2.1 x.2.2.2.1) j
    by_cases q : j = h
    · subst q; rw [pk_us, pk_us, hb]
    · rw [pk_un q, pk_un q]; exact h7 hQ j hj
theorem nxS_0 {T : gTown} {lw : Nat} {s : Nat → Int32} {b : Nat → Bool} {p : Int32} (hn : tN T ≤ 6) (h : wb b 6 = 0) : nxS T lw s b p = (-1) := by
  unfold nxS
  rw [myM_wb hn]
  rcases nxR_bit (mayS T b) (rkF T lw s p) hn with ⟨h1, -⟩ | ⟨j, h1, -, h3⟩
  · exact h1
  · have := cnt_zero ((wb_0 b).mp h) j (by omega)
    rw [mayS_sub h3] at this
    exact absurd this (by decide)
theorem go_tie {T : gTown} {lw : Nat} {s : Nat → Int32} {c0 : Int32} {Q : Prop} (hO : okT T) : ∀ {m : Nat} {N : gNt} {x : gGo}, gR T s c0 Q N x → gR T s c0 Q (laN T lw m N) (goR T lw s m x)
  | 0, N, x, h => h
  | m + 1, N, x, h => by
    have e : nxN T lw N = nxS T lw s x.1 x.2.1 := by
      unfold nxN
      rw [h.1]
      exact nxB_S hO h.2.2.2.2.2.2.2 h.2.2.2.1 h.2.2.2.2.1
    rw [laN, goR, e]
    by_cases q : wb x.1 6 = 0
    · rw [if_pos q, if_pos (nxS_0 hO.1 q)]; exact h
    · obtain ⟨j, h1, h2, h3⟩ := nxS_in (lw := lw) (s := s) (p := x.2.1) hO.1 (fun j hj => (h.2.2.2.2.1 j hj).1) q
      rw [if_neg q, h2, if_neg (nI_m1 (by have := hO.1; omega)), nI_clamp (by have := hO.1; omega)]
      exact go_tie hO (gR_step hO h h3)
theorem laN_row {T : gTown} {lw : Nat} {i : Nat} (h2 : i ≠ 2) (h3 : i ≠ 3) (h4 : i ≠ 4) : ∀ {m : Nat} {N : gNt}, (laN T lw m N).1 i = N.1 i
  | 0, N => rfl
  | m + 1, N => by
    rw [laN]
    by_cases q : nxN T lw N = (-1)
    · rw [if_pos q]
    · rw [if_neg q, laN_row h2 h3 h4]
      show va_up (va_up (va_up N.1 2 _) 3 _) 4 _ i = N.1 i
      rw [va_up_ne _ _ h4, va_up_ne _ _ h3, va_up_ne _ _ h2]
/-! the guesses -/
theorem asL_tie {T : gTown} {B : Nat → Nat → Int32} {ib s : Nat → Int32} {sh : Nat → Nat} (hn : tN T ≤ 6) {sk : Nat} (h3 : ∀ j, j < 6 → B 3 j = ib j) (hs : ∀ j, j < sk → sh j < tN T ∧ B 6 j = nI (sh j) ∧ B 7 j = s (3 * j + 1) ∧ B 8 j = s (3 * j + 2) ∧ (s (3 * j + 2) = nI 0 ∨ s (3 * j + 2) = nI 1)) : ∀ {k : Nat}, k ≤ sk → asL T B k = asR ib s sh k
  | 0, _ => rfl
  | k + 1, hk => by
    obtain ⟨a1, a2, a3, a4, a5⟩ := hs k (by omega)
    rw [asL, asR, asL_tie hn h3 hs (show k ≤ sk by omega), a2, a3, a4, seenB_nI hn a1, h3 (sh k) (by omega)]
    congr 1
    show decide (bI (sgW ib s sh k) = s (3 * k + 2)) = (sgW ib s sh k == decide (s (3 * k + 2) = nI 1))
    rcases a5 with e | e <;> rw [e] <;> cases sgW ib s sh k <;> decide
theorem guC_cnt {T : gTown} {r s : Nat → Int32} {sh : Nat → Nat} {sk : Nat} : ∀ {m : Nat}, m ≤ 30 → guC T r s sh sk m = nI (cnt (guB T r s sh sk) 30 - cnt (guB T r s sh sk) (30 - m)) ∧ cnt (guB T r s sh sk) (30 - m) ≤ cnt (guB T r s sh sk) 30
  | 0, _ => ⟨by rw [Nat.sub_zero, Nat.sub_self]; rfl, Nat.le_refl _⟩
  | m + 1, hm => by
    obtain ⟨h1, h2⟩ := guC_cnt (T := T) (r := r) (s := s) (sh := sh) (sk := sk) (show m ≤ 30 by omega)
    have e : cnt (guB T r s sh sk) (30 - m) = cnt (guB T r s sh sk) (30 - (m + 1)) + if guB T r s sh sk (29 - m) then 1 else 0 := by
      rw [show 30 - m = (29 - m) + 1 by omega, cnt, show 30 - (m + 1) = 29 - m by omega]
    rw [guC, h1]
    cases q : guB T r s sh sk (29 - m) with
    | true =>
      rw [q] at e
      simp only [if_true] at e
      refine ⟨?_, by omega⟩
      show nI _ + nI 1 = _
      rw [nI_add]
      congr 1
      omega
    | false =>
      rw [q] at e
      simp only [Bool.false_eq_true, if_false, Nat.add_zero] at e
      refine ⟨?_, by omega⟩
      show nI _ + nI 0 = _
      rw [nI_add, e, Nat.add_zero]
theorem gsC_cnt {T : gTown} {B : Nat → Nat → Int32} {sk : Nat} : ∀ c, (gsC T B sk c).1 = nI (cnt (gsB T B sk) c)
  | 0 => rfl
  | c + 1 => by
    rw [gsC, cnt]
    cases q : gsB T B sk c with
    | true => simp only [if_true]; rw [gsC_cnt c, nI_add]
    | false => simp only [Bool.false_eq_true, if_false, Nat.add_zero]; exact gsC_cnt c
theorem gsC_lst {T : gTown} {B : Nat → Nat → Int32} {sk : Nat} : ∀ {c : Nat}, c ≤ 30 → ((gsC T B sk c).2 = (-1) ∧ ∀ j, j < c → gsB T B sk j = false) ∨ ∃ i, i < c ∧ (gsC T B sk c).2 = nI i ∧ gsB T B sk i = true ∧ ∀ j, j < i → gsB T B sk j = false
  | 0, _ => Or.inl ⟨rfl, fun j hj => absurd hj (Nat.not_lt_zero j)⟩
  | c + 1, hc => by
    have ih := gsC_lst (T := T) (B := B) (sk := sk) (show c ≤ 30 by omega)
    rw [gsC]
    cases q : gsB T B sk c with
    | true =>
      simp only [if_true]
      rcases ih with ⟨h1, h2⟩ | ⟨i, h1, h2, h3, h4⟩
      · rw [if_pos h1]; exact Or.inr ⟨c, by omega, rfl, q, h2⟩
      · rw [if_neg (by rw [h2]; exact nI_m1 (by omega))]; exact Or.inr ⟨i, by omega, h2, h3, h4⟩
    | false =>
      simp only [Bool.false_eq_true, if_false]
      rcases ih with ⟨h1, h2⟩ | ⟨i, h1, h2, h3, h4⟩
      · refine Or.inl ⟨h1, fun j hj => ?_⟩
        rcases Nat.lt_or_ge j c with w | w
        · exact h2 j w
        · rw [show j = c by omega]; exact q
      · exact Or.inr ⟨i, by omega, h2, h3, h4⟩
theorem guL_lst {T : gTown} {r s : Nat → Int32} {sh : Nat → Nat} {sk : Nat} : ∀ {m : Nat}, m ≤ 30 → (guL T r s sh sk m = (-1) ∧ ∀ j, 30 - m ≤ j → j < 30 → guB T r s sh sk j = false) ∨ ∃ i, 30 - m ≤ i ∧ i < 30 ∧ guL T r s sh sk m = nI i ∧ guB T r s sh sk i = true ∧ ∀ j, 30 - m ≤ j → j < i → guB T r s sh sk j = false
  | 0, _ => Or.inl ⟨rfl, fun j h1 h2 => by omega⟩
  | m + 1, hm => by
    have ih := guL_lst (T := T) (r := r) (s := s) (sh := sh) (sk := sk) (show m ≤ 30 by omega)
    rw [guL]
    cases q : guB T r s sh sk (29 - m) with
    | true =>
      simp only [if_true]
      exact Or.inr ⟨29 - m, by omega, by omega, rfl, q, fun j h1 h2 => by omega⟩
    | false =>
      simp only [Bool.false_eq_true, if_false]
      rcases ih with ⟨h1, h2⟩ | ⟨i, h1, h2, h3, h4, h5⟩
      · refine Or.inl ⟨h1, fun j h3 h4 => ?_⟩
        rcases Nat.lt_or_ge (29 - m) j with w | w
        · exact h2 j (by omega) h4
        · rw [show j = 29 - m by omega]; exact q
      · refine Or.inr ⟨i, by omega, h2, h3, h4, fun j h6 h7 => ?_⟩
        rcases Nat.lt_or_ge (29 - m) j with w | w
        · exact h5 j (by omega) h7
        · rw [show j = 29 - m by omega]; exact q
theorem gs_tie {T : gTown} {B : Nat → Nat → Int32} {r s : Nat → Int32} {sh : Nat → Nat} {sk : Nat} (h : ∀ c, c < 30 → gsB T B sk c = guB T r s sh sk c) : (gsC T B sk 30).1 = guC T r s sh sk 30 ∧ (gsC T B sk 30).2 = guL T r s sh sk 30 := by
  constructor
  · rw [gsC_cnt, (guC_cnt (Nat.le_refl 30)).1, show (30 : Nat) - 30 = 0 by omega, cnt_cong h]
    rfl
  · rcases gsC_lst (T := T) (B := B) (sk := sk) (Nat.le_refl 30) with ⟨h1, h2⟩ | ⟨i, h1, h2, h3, h4⟩
    · rcases guL_lst (T := T) (r := r) (s := s) (sh := sh) (sk := sk) (Nat.le_refl 30) with ⟨g1, -⟩ | ⟨j, -, g2, -, g4, -⟩
      · rw [h1, g1]
      · rw [← h j g2, h2 j g2] at g4; exact absurd g4 (by decide)
    · rcases guL_lst (T := T) (r := r) (s := s) (sh := sh) (sk := sk) (Nat.le_refl 30) with ⟨-, g2⟩ | ⟨j, -, g2, g3, g4, g5⟩
      · have := g2 i (by omega) h1; rw [← h i h1, h3] at this; exact absurd this (by decide)
      · rw [h2, g3]
        rcases Nat.lt_trichotomy i j with w | w | w
        · have := g5 i (by omega) w; rw [← h i h1, h3] at this; exact absurd this (by decide)
        · rw [w]
        · have := h4 j w; rw [h j g2, g4] at this; exact absurd this (by decide)
/-! drawn nights -/
theorem nt_seed (f r : Nat → Int32) (sd : Int32) : ∀ i, (ntL f sd i).2 = (ntR r sd i).2
  | 0 => rfl
  | i + 1 => by rw [ntL, ntR, nt_seed f r sd i]
theorem nt_row (f r : Nat → Int32) (sd : Int32) : ∀ i, (∀ j, j < i → (ntL f sd i).1 j = (ntR r sd i).1 (8 * j + 4) ∧ ((ntL f sd i).1 j = nI 0 ∨ (ntL f sd i).1 j = (-1))) ∧ ∀ j, i ≤ j → (ntL f sd i).1 j = f j
  | 0 => ⟨fun j hj => absurd hj (Nat.not_lt_zero j), fun _ _ => rfl⟩
  | i + 1 => by
    obtain ⟨h1, h2⟩ := nt_row f r sd i
    rw [ntL, ntR, nt_seed f r sd i]
    refine ⟨fun j hj => ?_, fun j hj => ?_⟩
    · generalize hv : (if drN (ntR r sd i).2 2 = 1 then nI 0 else (-1)) = v
      have hv2 : v = nI 0 ∨ v = (-1) := by
        rw [← hv]
        by_cases q : drN (ntR r sd i).2 2 = 1
        · rw [if_pos q]; exact Or.inl rfl
        · rw [if_neg q]; exact Or.inr rfl
      show upd (ntL f sd i).1 i v j = upd (ntR r sd i).1 (8 * i + 4) v (8 * j + 4) ∧ (upd (ntL f sd i).1 i v j = nI 0 ∨ upd (ntL f sd i).1 i v j = (-1))
      rcases Nat.lt_or_ge j i with w | w
      · rw [pk_un (by omega), pk_un (by omega)]; exact h1 j w
      · obtain rfl : j = i := by omega
        rw [pk_us, pk_us]
        exact ⟨rfl, hv2⟩
    · show upd (ntL f sd i).1 i _ j = f j
      rw [pk_un (by omega)]; exact h2 j (by omega)
theorem nt_tie {T : gTown} (hO : okT T) {z : gNt × Int32} {y : gNs} (hs : z.2 = y.2.1) (hp : z.1.2.1 = y.2.2.1) (ho : okP y.2.2.1) (hl : sumB (z.1.1 4) 6 = y.2.2.2) (hn : ∀ j, tN T ≤ j → j < 6 → z.1.1 2 j = (-1)) : (ntN T z).2 = (ntS T y).2.1 ∧ (ntN T z).1.2.1 = (ntS T y).2.2.1 ∧ okP (ntS T y).2.2.1 ∧ sumB ((ntN T z).1.1 4) 6 = (ntS T y).2.2.2 ∧ ∀ j, tN T ≤ j → j < 6 → (ntN T z).1.1 2 j = (-1) := by
  have e1 := nt_seed (z.1.1 2) y.1 z.2 (tN T)
  obtain ⟨r1, r2⟩ := nt_row (z.1.1 2) y.1 z.2 (tN T)
  have hsh : shN (ntL (z.1.1 2) z.2 (tN T)).1 = shB T (ntR y.1 z.2 (tN T)).1 := funext fun j => by
    unfold shN shB
    rcases Nat.lt_or_ge j (tN T) with w | w
    · have := hO.1
      rw [decide_eq_true w, decide_eq_true (show j < 6 by omega)]
      unfold outB sF
      rw [(r1 j w).1]
    · rw [decide_eq_false (show ¬ j < tN T by omega), Bool.and_false]
      by_cases w6 : j < 6
      · unfold outB
        rw [r2 j w, hn j w w6]; simp
      · rw [decide_eq_false w6, Bool.and_false]
  have g0 : gR T (sF (ntR y.1 z.2 (tN T)).1) (sumB (z.1.1 4) 6) False (va_up z.1.1 2 (ntL (z.1.1 2) z.2 (tN T)).1, z.1.2.1, nI 0, nI 0) (shB T (ntR y.1 z.2 (tN T)).1, y.2.2.1, nI 0, nI 0, nI 0, fun _ => (-1)) := by
    refine ⟨hp, rfl, rfl, hsh, fun j hj => ?_, ?_, fun h => h.elim, ho⟩
    · have hj1 := shB_lt j hj
      refine ⟨hj1, (r1 j hj1).1, 0, by omega, ?_⟩
      show (ntL (z.1.1 2) z.2 (tN T)).1 j = nI 0
      rcases (r1 j hj1).2 with w | w
      · exact w
      · have hj2 : shN (ntL (z.1.1 2) z.2 (tN T)).1 j = true := by rw [hsh]; exact hj
        unfold shN outB at hj2
        rw [w] at hj2
        simp at hj2
    · show sumB (va_up z.1.1 2 (ntL (z.1.1 2) z.2 (tN T)).1 4) 6 = sumB (z.1.1 4) 6 + nI 0
      rw [va_up_ne _ _ (by decide)]
      exact (Int32.add_zero _).symm
  have g1 := go_tie (lw := drN (ntR y.1 z.2 (tN T)).2 3) (m := 6) hO g0
  have en : ntN T z = (laN T (drN (ntR y.1 z.2 (tN T)).2 3) 6 (va_up z.1.1 2 (ntL (z.1.1 2) z.2 (tN T)).1, z.1.2.1, nI 0, nI 0), sdN (ntR y.1 z.2 (tN T)).2) := by
    unfold ntN
    rw [e1]
  have ey : ntS T y = ((ntR y.1 z.2 (tN T)).1, sdN (ntR y.1 z.2 (tN T)).2, (goR T (drN (ntR y.1 z.2 (tN T)).2 3) (sF (ntR y.1 z.2 (tN T)).1) 6 (shB T (ntR y.1 z.2 (tN T)).1, y.2.2.1, nI 0, nI 0, nI 0, fun _ => (-1))).2.1, y.2.2.2 + (goR T (drN (ntR y.1 z.2 (tN T)).2 3) (sF (ntR y.1 z.2 (tN T)).1) 6 (shB T (ntR y.1 z.2 (tN T)).1, y.2.2.1, nI 0, nI 0, nI 0, fun _ => (-1))).2.2.2.2.1) := by
    unfold ntS ntG
    rw [← hs]
  rw [en, ey]
  obtain ⟨a1, -, -, a4, a5, a6, -, a8⟩ := g1
  refine ⟨rfl, a1, a8, by rw [← hl]; exact a6, fun j h1 h2 => ?_⟩
  have : ¬ shN ((laN T (drN (ntR y.1 z.2 (tN T)).2 3) 6 (va_up z.1.1 2 (ntL (z.1.1 2) z.2 (tN T)).1, z.1.2.1, nI 0, nI 0)).1 2) j = true := fun w => by
    rw [a4] at w
    have := (a5 j w).1
    omega
  refine outB_f ?_
  unfold shN at this
  rw [decide_eq_true h2, Bool.and_true] at this
  simpa using this
theorem ntk_tie {T : gTown} (hO : okT T) {z : gNt × Int32} {y : gNs} (hs : z.2 = y.2.1) (hp : z.1.2.1 = y.2.2.1) (ho : okP y.2.2.1) (hl : sumB (z.1.1 4) 6 = y.2.2.2) (hn : ∀ j, tN T ≤ j → j < 6 → z.1.1 2 j = (-1)) : ∀ k, (ntK T z k).2 = (ntF T y k).2.1 ∧ (ntK T z k).1.2.1 = (ntF T y k).2.2.1 ∧ okP (ntF T y k).2.2.1 ∧ sumB ((ntK T z k).1.1 4) 6 = (ntF T y k).2.2.2 ∧ ∀ j, tN T ≤ j → j < 6 → (ntK T z k).1.1 2 j = (-1)
  | 0 => ⟨hs, hp, ho, hl, hn⟩
  | k + 1 => by
    obtain ⟨a1, a2, a3, a4, a5⟩ := ntk_tie hO hs hp ho hl hn k
    exact nt_tie hO a1 a2 a3 a4 a5
