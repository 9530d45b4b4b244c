/-! best, shortest, earliest: class and reference -/
theorem fN_hit {α : Type} {Q : α → Prop} {F : Nat → α → α} (hp : ∀ i a, Q a → Q (F i a)) {i0 : Nat} (h0 : ∀ a, Q (F i0 a)) : ∀ {n : Nat} {a : α}, i0 < n → Q (fN F n a)
  | 0, _, h => absurd h (Nat.not_lt_zero i0)
  | n + 1, a, h => by
    rw [fN]
    rcases Nat.lt_or_ge i0 n with q | q
    · exact hp n _ (fN_hit hp h0 q)
    · rw [show n = i0 by omega]; exact h0 _
theorem mB_ex {T : gTown} {mf : Bool} {b : Nat → Bool} (hb : ∀ j, b j = true → j < tN T) (h : ¬ cnt b 6 = 0) : ∃ i, i < tN T ∧ mB T mf b i = true := by
  have h2 : ¬ cnt (mB T mf b) 6 = 0 := by
    unfold mB
    cases mf with
    | true => exact mayS_pos h
    | false => exact h
  obtain ⟨j, -, hj⟩ := cnt_pos h2
  exact ⟨j, mB_lt hb hj, hj⟩
theorem gD_hit {T : gTown} {mf : Bool} {α : Type} {Uf : gZs → (Nat → Int32) → α → α} {Q : α → Prop} (hO : okT T) (hU : ∀ z O a, (∃ mm ll, okS 0 z mm ll) → Q (Uf z O a)) : ∀ {m : Nat} {b : Nat → Bool} {z : gZs} {d : Nat} {O : Nat → Int32} {a : α}, cnt b 6 = m → (∀ j, b j = true → j < tN T) → (∃ mm ll, okS m z mm ll) → Q (gD T mf Uf m b z d O a)
  | 0, b, z, d, O, a, hc, hb, hz => hU z O a hz
  | m + 1, b, z, d, O, a, hc, hb, hz => by
    have key : ∀ i, mB T mf b i = true → ∀ a, Q (gD T mf Uf m (clr b i) (rnS T i z) (d + 1) (upd O d (nI i)) a) := fun i hi a => by
      obtain ⟨mm, ll, hz⟩ := hz
      obtain ⟨mm', ll', -, -, hz2⟩ := okS_step hO (mB_lt hb hi) hz
      exact gD_hit hO hU (cnt_clr6 (by have := mB_lt hb hi; have := hO.1; omega) (mB_sub hi) hc) (clr_lt hb) ⟨mm', ll', hz2⟩
    obtain ⟨i0, h1, h2⟩ := mB_ex (mf := mf) hb (show ¬ cnt b 6 = 0 by omega)
    rw [gD]
    refine fN_hit (i0 := i0) (fun i a ha => ?_) (fun a => ?_) h1
    · by_cases q : mB T mf b i = true
      · rw [if_pos q]; exact key i q a
      · rw [if_neg q]; exact ha
    · rw [if_pos h2]; exact key i0 h2 a
abbrev mxI : Int32 := nI 2147483647
theorem ltMx {l : Nat} (h : l ≤ 2000000) : nI l < mxI := nI_lt (by omega) (by decide)
theorem uC_hit {cl : Bool} {K : Nat} {z : gZs} {O : Nat → Int32} {a : gAc} (hz : ∃ mm ll, okS 0 z mm ll) : ¬ (uC cl K z O a).1 = mxI := by
  obtain ⟨mm, ll, -, -, e, -, -, h⟩ := hz
  have hl : ltz cl z < mxI := by
    cases cl with
    | true => show z.2.2.2 < mxI; rw [e]; exact ltMx (by omega)
    | false => exact ltMx (l := 0) (by omega)
  unfold uC
  by_cases q : btr (ltz cl z) z.2.1 a.1 a.2.1 = false
  · rw [if_pos q]
    intro w
    unfold btr at q
    rw [Bool.or_eq_false_iff] at q
    exact of_decide_eq_false q.1 (by rw [w]; exact hl)
  · rw [if_neg q]
    intro w; have w2 : ltz cl z = mxI := w; rw [w2] at hl; exact absurd hl (by decide)
theorem nlt_le {x y : Int32} : ¬ y ≤ x ↔ x < y := ⟨Int32.not_le.mp, Int32.not_le.mpr⟩
def R1 (K : Nat) (a : gLb) (c : gAc) : Prop := (a.1 = (-1) ∧ c.1 = mxI ∧ c.2.1 = mxI) ∨ ∃ l, l ≤ 2000000 ∧ a.1 = nI l ∧ c.1 = nI l ∧ c.2.1 = a.2.1 ∧ c.2.2.1 = nI K ∧ ∀ k, k < K → c.2.2.2 k = nI (a.2.2.2 k)
theorem R1_step {K : Nat} {z : gZs} {od : Nat → Nat} {O : Nat → Int32} {a : gLb} {c : gAc} (hz : ∃ mm ll, okS 0 z mm ll) (hOd : ∀ k, k < K → O k = nI (od k)) (h : R1 K a c) : R1 K (lbU z od a) (uC true K z O c) := by
  obtain ⟨mm, ll, -, -, e, -, -, hl⟩ := hz
  have new : lbC z a → btr z.2.2.2 z.2.1 c.1 c.2.1 = true → R1 K (lbU z od a) (uC true K z O c) := by
    intro h1 h2
    rw [lbU_t h1]
    unfold uC
    rw [if_neg (by show ¬ btr z.2.2.2 z.2.1 c.1 c.2.1 = false; rw [h2]; decide)]
    refine Or.inr ⟨ll, by omega, e, e, rfl, rfl, fun k hk => ?_⟩
    show fil O c.2.2.2 K k = nI (od k)
    unfold fil
    rw [if_pos hk, hOd k hk]
  rcases h with ⟨h1, h2, h3⟩ | ⟨l, h1, h2, h3, h4, h5, h6⟩
  · refine new (Or.inl h1) ?_
    unfold btr
    rw [h2, e, decide_eq_true (ltMx (show ll ≤ 2000000 by omega))]; rfl
  · by_cases q : btr z.2.2.2 z.2.1 c.1 c.2.1 = true
    · refine new ?_ q
      unfold btr at q
      rw [Bool.or_eq_true] at q
      rcases q with q | q
      · exact Or.inr (Or.inl (by rw [h2, ← h3]; exact of_decide_eq_true q))
      · rw [Bool.and_eq_true] at q
        exact Or.inr (Or.inr ⟨by rw [h2, ← h3]; exact of_decide_eq_true q.1, by rw [← h4]; exact nlt_le.mpr (of_decide_eq_true q.2)⟩)
    · have q2 : btr z.2.2.2 z.2.1 c.1 c.2.1 = false := by simpa using q
      have h7 : ¬ lbC z a := by
        rintro (w | w | w)
        · rw [h2] at w; exact nI_m1 (by omega) w
        · exact q (by unfold btr; rw [decide_eq_true (show z.2.2.2 < c.1 by rw [h3, ← h2]; exact w)]; rfl)
        · refine q ?_
          unfold btr
          rw [decide_eq_true (show z.2.2.2 = c.1 by rw [h3, ← h2]; exact w.1), decide_eq_true (show z.2.1 < c.2.1 by rw [h4]; exact nlt_le.mp w.2)]
          simp
      rw [lbU_f h7]
      unfold uC
      rw [if_pos (show btr (ltz true z) z.2.1 c.1 c.2.1 = false from q2)]
      exact Or.inr ⟨l, h1, h2, h3, h4, h5, h6⟩
/-- shortest: the least minute, and the class's best end where late isn't counted -/
def R2 (s : Int32) (c : gAc) : Prop := (s = (-1) ∧ c.1 = mxI ∧ c.2.1 = mxI) ∨ ∃ m, m ≤ 20000 ∧ s = nI m ∧ c.1 = nI 0 ∧ c.2.1 = nI m
theorem R2_step {K : Nat} {z : gZs} {O : Nat → Int32} {s : Int32} {c : gAc} (hz : ∃ mm ll, okS 0 z mm ll) (h : R2 s c) : R2 (smF z.2.1 s) (uC false K z O c) := by
  obtain ⟨mm, ll, -, e, -, -, hm, -⟩ := hz
  unfold smF uC
  show R2 _ (if btr (nI 0) z.2.1 c.1 c.2.1 = false then c else (nI 0, z.2.1, nI K, fil O c.2.2.2 K))
  rcases h with ⟨h1, h2, h3⟩ | ⟨m, h1, h2, h3, h4⟩
  · rw [if_pos (Or.inl h1), h2, h3]
    have : btr (nI 0) z.2.1 mxI mxI = true := by unfold btr; rw [decide_eq_true (ltMx (l := 0) (by omega))]; rfl
    rw [if_neg (by rw [this]; decide)]
    exact Or.inr ⟨mm, by omega, e, rfl, e⟩
  · rw [h2, h3, h4, e]
    by_cases q : mm < m
    · rw [if_pos (Or.inr (fun w => by have := (nI_leI (by omega) (by omega)).mp w; omega))]
      have : btr (nI 0) (nI mm) (nI 0) (nI m) = true := by unfold btr; rw [decide_eq_true (rfl : nI 0 = nI 0), decide_eq_true (nI_lt q (by omega))]; simp
      rw [if_neg (by rw [this]; decide)]
      exact Or.inr ⟨mm, by omega, rfl, rfl, rfl⟩
    · rw [if_neg (by
        rintro (w | w)
        · exact nI_m1 (by omega) w
        · exact w (nI_le (by omega) (by omega)))]
      have : btr (nI 0) (nI mm) (nI 0) (nI m) = false := by
        unfold btr
        rw [decide_eq_false (show ¬ nI 0 < nI 0 by decide), decide_eq_false (fun w => q ((nI_ltI (by omega) (by omega)).mp w))]; simp
      rw [if_pos this]
      exact Or.inr ⟨m, h1, rfl, h3, h4⟩
theorem okS_0 {K mm uu : Nat} {x m0 y : Int32} (hK : K ≤ 6) (hx : okP x) (hm : m0 = nI mm) (hy : y = nI uu) (hu : uu ≤ mm + 5) (hb : mm ≤ 15000) : okS K (x, m0, y, nI 0) mm 0 := ⟨hx, hm, rfl, ⟨uu, hy, hu⟩, by omega, by omega⟩
theorem codA {T : gTown} {mf : Bool} {b : Nat → Bool} {α β : Type} {R : α → β → Prop} {U : gZs → (Nat → Nat) → α → α} {U' : gZs → (Nat → Int32) → β → β} {z0 : gZs} {mm : Nat} (hO : okT T) (hb : ∀ j, b j = true → j < tN T) (hz : okS (cnt b (tN T)) z0 mm 0)
    (hU : ∀ z od O a a', (∃ mm ll, okS 0 z mm ll) → (∀ k, k < cnt b (tN T) → O k = nI (od k)) → R a a' → R (U z od a) (U' z O a')) {F : Nat → α → α} (hF : ∀ c a, F c a = if okc T mf b (cnt b (tN T)) c = true then U (rnR T (odC b (tN T) (cnt b (tN T)) c) z0 (cnt b (tN T))) (odC b (tN T) (cnt b (tN T)) c) a else a) (O : Nat → Int32) {a : α} {a' : β} (hR : R a a') :
    R (fN F ((cnt b (tN T)) ^ (cnt b (tN T))) a) (gD T mf U' (cnt b (tN T)) b z0 0 O a') := by
  have h := cod (mf := mf) (z0 := z0) hO rfl hb hU (cnt b (tN T)) 0 0 (fun _ => 0) b z0 O a a' (by omega) (fun _ _ k hk => absurd hk (Nat.not_lt_zero k)) (fun k hk => absurd hk (Nat.not_lt_zero k)) (fun k hk => absurd hk (Nat.not_lt_zero k)) rfl (fun d hd => (memN_lt hd).2) (fun _ => rfl) rfl ⟨mm, 0, hz⟩ (fun k hk => absurd hk (Nat.not_lt_zero k)) hR
  rw [fN_cong (F' := F) (fun c a _ => by rw [hF c a, Nat.zero_mul, Nat.zero_add])] at h
  exact h
theorem b_tie {T : gTown} {b : Nat → Bool} {x m0 y : Int32} {mm uu : Nat} (hO : okT T) (hb : ∀ j, b j = true → j < tN T) (hx : okP x) (hm : m0 = nI mm) (hy : y = nI uu) (hu : uu ≤ mm + 5) (h15 : mm ≤ 15000) (O BO : Nat → Int32) (a0 : gLb) (ha : a0.1 = (-1)) :
    ∃ l, l ≤ 2000000 ∧ (fN (lbS T b (cnt b (tN T)) (x, m0, y, nI 0)) ((cnt b (tN T)) ^ (cnt b (tN T))) a0).1 = nI l ∧ (dfC T true true 7 b x m0 y (nI 0) 0 O (ac0 BO)).1 = nI l ∧ (dfC T true true 7 b x m0 y (nI 0) 0 O (ac0 BO)).2.1 = (fN (lbS T b (cnt b (tN T)) (x, m0, y, nI 0)) ((cnt b (tN T)) ^ (cnt b (tN T))) a0).2.1 ∧ (dfC T true true 7 b x m0 y (nI 0) 0 O (ac0 BO)).2.2.1 = nI (cnt b (tN T)) ∧ ∀ k, k < cnt b (tN T) → (dfC T true true 7 b x m0 y (nI 0) 0 O (ac0 BO)).2.2.2 k = nI ((fN (lbS T b (cnt b (tN T)) (x, m0, y, nI 0)) ((cnt b (tN T)) ^ (cnt b (tN T))) a0).2.2.2 k) := by
  have hK6 : cnt b (tN T) ≤ 6 := by have := cnt_le b (tN T); have := hO.1; omega
  have hc : cnt b 6 = cnt b (tN T) := cnt_sub hb hO.1
  have hz := okS_0 hK6 hx hm hy hu h15
  have e : dfC T true true 7 b x m0 y (nI 0) 0 O (ac0 BO) = gD T true (uC true (cnt b (tN T))) (cnt b (tN T)) b (x, m0, y, nI 0) 0 O (ac0 BO) := by
    have := dfC_gD (cl := true) (mf := true) (z := (x, m0, y, nI 0)) (d := 0) (O := O) (acc := ac0 BO) hO hc (show cnt b (tN T) < 7 by omega) hb hz
    rw [Nat.zero_add] at this
    exact this
  have h := codA (mf := true) (R := R1 (cnt b (tN T))) (U := lbU) (U' := uC true (cnt b (tN T))) hO hb hz (fun z od O a a' h1 h2 h3 => R1_step h1 h2 h3) (F := lbS T b (cnt b (tN T)) (x, m0, y, nI 0)) (fun c a => rfl) O (a := a0) (a' := ac0 BO) (Or.inl ⟨ha, rfl, rfl⟩)
  have h2 := gD_hit (mf := true) (Uf := uC true (cnt b (tN T))) (Q := fun c => ¬ c.1 = mxI) (d := 0) (O := O) (a := ac0 BO) hO (fun z O a hz => uC_hit hz) hc hb ⟨mm, 0, hz⟩
  rw [e]
  rcases h with ⟨-, w, -⟩ | h
  · exact absurd w h2
  · exact h
theorem s_tie {T : gTown} {b : Nat → Bool} {x m0 y : Int32} {mm uu : Nat} (hO : okT T) (hb : ∀ j, b j = true → j < tN T) (hx : okP x) (hm : m0 = nI mm) (hy : y = nI uu) (hu : uu ≤ mm + 5) (h15 : mm ≤ 15000) (O BO : Nat → Int32) (a0 : gLb) (ha : a0.2.2.1 = (-1)) :
    ∃ m, m ≤ 20000 ∧ (fN (lbS T b (cnt b (tN T)) (x, m0, y, nI 0)) ((cnt b (tN T)) ^ (cnt b (tN T))) a0).2.2.1 = nI m ∧ (dfC T false true 7 b x m0 y (nI 0) 0 O (ac0 BO)).2.1 = nI m := by
  have hK6 : cnt b (tN T) ≤ 6 := by have := cnt_le b (tN T); have := hO.1; omega
  have hc : cnt b 6 = cnt b (tN T) := cnt_sub hb hO.1
  have hz := okS_0 hK6 hx hm hy hu h15
  have e : dfC T false true 7 b x m0 y (nI 0) 0 O (ac0 BO) = gD T true (uC false (cnt b (tN T))) (cnt b (tN T)) b (x, m0, y, nI 0) 0 O (ac0 BO) := by
    have := dfC_gD (cl := false) (mf := true) (z := (x, m0, y, nI 0)) (d := 0) (O := O) (acc := ac0 BO) hO hc (show cnt b (tN T) < 7 by omega) hb hz
    rw [Nat.zero_add] at this
    exact this
  have h := codA (mf := true) (R := fun (a : gLb) c => R2 a.2.2.1 c) (U := lbU) (U' := uC false (cnt b (tN T))) hO hb hz (fun z od O a a' h1 h2 h3 => by
    have e3 : (lbU z od a).2.2.1 = smF z.2.1 a.2.2.1 := by
      by_cases q : lbC z a
      · rw [lbU_t q]
      · rw [lbU_f q]
    show R2 (lbU z od a).2.2.1 _
    rw [e3]
    exact R2_step h1 h3) (F := lbS T b (cnt b (tN T)) (x, m0, y, nI 0)) (fun c a => rfl) O (a := a0) (a' := ac0 BO) (Or.inl ⟨ha, rfl, rfl⟩)
  have h2 := gD_hit (mf := true) (Uf := uC false (cnt b (tN T))) (Q := fun c => ¬ c.1 = mxI) (d := 0) (O := O) (a := ac0 BO) hO (fun z O a hz => uC_hit hz) hc hb ⟨mm, 0, hz⟩
  rw [e]
  rcases h with ⟨-, w, -⟩ | ⟨m, h3, h4, -, h5⟩
  · exact absurd w h2
  · exact ⟨m, h3, h4, h5⟩
theorem e_tie {T : gTown} {b : Nat → Bool} {x m0 y : Int32} {mm uu : Nat} (hO : okT T) (hb : ∀ j, b j = true → j < tN T) (hx : okP x) (hm : m0 = nI mm) (hy : y = nI uu) (hu : uu ≤ mm + 5) (h15 : mm ≤ 15000) : ∃ m, m ≤ 20000 ∧ eaF T b x m0 y = nI m ∧ seE T b x m0 y = nI m := by
  have hK6 : cnt b (tN T) ≤ 6 := by have := cnt_le b (tN T); have := hO.1; omega
  have hc : cnt b 6 = cnt b (tN T) := cnt_sub hb hO.1
  have hz := okS_0 hK6 hx hm hy hu h15
  have e : dfC T false false 7 b x m0 y (nI 0) 0 (fun _ => nI 0) (ac0 fun _ => nI 0) = gD T false (uC false (cnt b (tN T))) (cnt b (tN T)) b (x, m0, y, nI 0) 0 (fun _ => nI 0) (ac0 fun _ => nI 0) := by
    have := dfC_gD (cl := false) (mf := false) (z := (x, m0, y, nI 0)) (d := 0) (O := fun _ => nI 0) (acc := ac0 fun _ => nI 0) hO hc (show cnt b (tN T) < 7 by omega) hb hz
    rw [Nat.zero_add] at this
    exact this
  have h := codA (mf := false) (R := R2) (U := fun z _ s => smF z.2.1 s) (U' := uC false (cnt b (tN T))) hO hb hz (fun z od O a a' h1 h2 h3 => R2_step h1 h3) (F := eaS T b (cnt b (tN T)) (x, m0, y, nI 0)) (fun c a => by
    unfold eaS okc
    simp only [Bool.not_false, Bool.true_or, Bool.and_true]) (fun _ => nI 0) (a := (-1)) (a' := ac0 fun _ => nI 0) (Or.inl ⟨rfl, rfl, rfl⟩)
  have h2 := gD_hit (mf := false) (Uf := uC false (cnt b (tN T))) (Q := fun c => ¬ c.1 = mxI) (d := 0) (O := fun _ => nI 0) (a := ac0 fun _ => nI 0) hO (fun z O a hz => uC_hit hz) hc hb ⟨mm, 0, hz⟩
  unfold seE
  rw [e]
  rcases h with ⟨-, w, -⟩ | ⟨m, h3, h4, -, h5⟩
  · exact absurd w h2
  · exact ⟨m, h3, h4, h5⟩
/-! hang -/
theorem h_tie {T : gTown} {r : Nat → Int32} {m0 y : Int32} {mm uu : Nat} (hO : okT T) (hm : m0 = nI mm) (hy : y = nI uu) (hu : uu ≤ mm + 5) (h15 : mm ≤ 15000) : ∀ p, p ≤ 9 → hgF T m0 r y (p + 1) = hgC T (shB T r) m0 y (p + 1) ∧ ∃ q, q ≤ 9 ∧ (hgF T m0 r y (p + 1)).1 = nI q
  | 0, _ => by
    obtain ⟨l, h1, h2, h3, -⟩ := b_tie (x := nI 0) hO (shB_lt (r := r)) (okP_nI (by omega)) hm hy hu h15 zF zF ((-1), m0, (-1), fun _ => 0) rfl
    have e1 : hgF T m0 r y 1 = (nI 0, (lbA T m0 r (nI 0) y).1) := by rw [hgF]; exact if_pos (Or.inl rfl)
    have e2 : hgC T (shB T r) m0 y 1 = (nI 0, beL T (shB T r) (nI 0) m0 y) := by
      rw [hgC]; exact if_pos (show beL T (shB T r) (nI 0) m0 y < mxI by unfold beL; rw [h3]; exact ltMx h1)
    refine ⟨?_, 0, by omega, by rw [e1]⟩
    rw [e1, e2]
    show (nI 0, (lbA T m0 r (nI 0) y).1) = (nI 0, beL T (shB T r) (nI 0) m0 y)
    have e3 : (lbA T m0 r (nI 0) y).1 = nI l := h2
    have e4 : beL T (shB T r) (nI 0) m0 y = nI l := h3
    rw [e3, e4]
  | p + 1, hp => by
    obtain ⟨ih, q, hq, eq⟩ := h_tie (r := r) hO hm hy hu h15 p (by omega)
    obtain ⟨l, h1, h2, h3, -⟩ := b_tie (x := nI (p + 1)) hO (shB_lt (r := r)) (okP_nI (by omega)) hm hy hu h15 zF zF ((-1), m0, (-1), fun _ => 0) rfl
    have e3 : (lbA T m0 r (nI (p + 1)) y).1 = nI l := h2
    have e4 : beL T (shB T r) (nI (p + 1)) m0 y = nI l := h3
    have hne : ¬ (hgF T m0 r y (p + 1)).1 = (-1) := by rw [eq]; exact nI_m1 (by omega)
    have e5 : hgF T m0 r y (p + 1 + 1) = if (hgF T m0 r y (p + 1)).1 = (-1) ∨ (lbA T m0 r (nI (p + 1)) y).1 < (hgF T m0 r y (p + 1)).2 then (nI (p + 1), (lbA T m0 r (nI (p + 1)) y).1) else hgF T m0 r y (p + 1) := rfl
    have e6 : hgC T (shB T r) m0 y (p + 1 + 1) = if beL T (shB T r) (nI (p + 1)) m0 y < (hgC T (shB T r) m0 y (p + 1)).2 then (nI (p + 1), beL T (shB T r) (nI (p + 1)) m0 y) else hgC T (shB T r) m0 y (p + 1) := rfl
    rw [e5, e6, e3, e4, ← ih]
    by_cases w : nI l < (hgF T m0 r y (p + 1)).2
    · rw [if_pos (Or.inr w), if_pos w]
      exact ⟨rfl, p + 1, by omega, rfl⟩
    · rw [if_neg (fun z => z.elim hne w), if_neg w]
      exact ⟨rfl, q, hq, eq⟩
/-! two keys -/
def nmB (b : Nat → Bool) : Nat := (if b 0 then 1 else 0) + (if b 1 then 2 else 0) + (if b 2 then 4 else 0) + (if b 3 then 8 else 0) + (if b 4 then 16 else 0) + (if b 5 then 32 else 0)
theorem nmB_lt6 : ∀ b0 b1 b2 b3 b4 b5 : Bool, nmB (b6 b0 b1 b2 b3 b4 b5) < 64 ∧ ∀ j : Fin 6, tbS (nmB (b6 b0 b1 b2 b3 b4 b5)) j.val = b6 b0 b1 b2 b3 b4 b5 j.val := by decide +kernel
theorem nmB_lt (b : Nat → Bool) : nmB b < 64 ∧ ∀ j, j < 6 → tbS (nmB b) j = b j := by
  have h := nmB_lt6 (b 0) (b 1) (b 2) (b 3) (b 4) (b 5)
  have e : nmB (b6 (b 0) (b 1) (b 2) (b 3) (b 4) (b 5)) = nmB b := rfl
  rw [e] at h
  exact ⟨h.1, fun j hj => by rw [h.2 ⟨j, hj⟩]; exact (b6_eq b hj).symm⟩
theorem tbS_hi {s j : Nat} (hs : s < 64) (hj : 6 ≤ j) : tbS s j = false := Nat.testBit_lt_two_pow (Nat.lt_of_lt_of_le hs (Nat.pow_le_pow_right (by decide) hj : 2 ^ 6 ≤ 2 ^ j))
theorem nmB_tbS {s : Nat} (hs : s < 64) : ∀ j, tbS (nmB (tbS s)) j = tbS s j := fun j => by
  rcases Nat.lt_or_ge j 6 with q | q
  · exact (nmB_lt _).2 j q
  · rw [tbS_hi hs q, tbS_hi (nmB_lt _).1 q]
theorem nmB_id6 : ∀ s : Fin 64, nmB (tbS s.val) = s.val := by decide +kernel
theorem wb_nmB (b : Nat → Bool) : wb b 6 = nI (nmB b) := by
  rw [tb_wb (nmB_lt b).1]
  exact wb_cong fun j hj => ((nmB_lt b).2 j hj).symm
/-- the rest of a set -/
def rsB (al : Nat → Bool) (s : Nat) : Nat → Bool := fun j => al j && !tbS s j
def rsN (al : Nat → Bool) (s : Nat) : Nat := nmB (rsB al s)
theorem rs_eq {al : Nat → Bool} (hal : ∀ j, al j = true → j < 6) (s : Nat) : tbS (rsN al s) = rsB al s := funext fun j => by
  rcases Nat.lt_or_ge j 6 with q | q
  · exact (nmB_lt _).2 j q
  · rw [tbS_hi (s := rsN al s) (nmB_lt _).1 q]
    cases e : al j with
    | false => simp [rsB, e]
    | true => exact absurd (hal j e) (by omega)
theorem rs_rs {al : Nat → Bool} {s : Nat} (hal : ∀ j, al j = true → j < 6) (hs : s < 64) (hc : cnt (fun j => tbS s j && !al j) 6 = 0) : rsB al (rsN al s) = tbS s := funext fun j => by
  have e : rsB al (rsN al s) j = (al j && !tbS (rsN al s) j) := rfl
  rw [e, rs_eq hal s]
  rcases Nat.lt_or_ge j 6 with q | q
  · have h := cnt_zero hc j q
    unfold rsB
    cases q1 : tbS s j <;> cases q2 : al j <;> simp_all
  · rw [tbS_hi hs q]
    unfold rsB
    rw [tbS_hi hs q]
    cases al j <;> rfl
theorem rs_sub {al : Nat → Bool} (hal : ∀ j, al j = true → j < 6) (s : Nat) : cnt (fun j => tbS (rsN al s) j && !al j) 6 = 0 := cnt_of0 fun j _ => by
  rw [rs_eq hal s]
  unfold rsB
  cases al j <;> simp
theorem rs_inv {al : Nat → Bool} {s : Nat} (hal : ∀ j, al j = true → j < 6) (hs : s < 64) (hc : cnt (fun j => tbS s j && !al j) 6 = 0) : rsN al (rsN al s) = s := by
  unfold rsN
  have := rs_rs hal hs hc
  unfold rsN at this
  rw [this]
  exact nmB_id6 ⟨s, hs⟩
theorem tk_iff {al : Nat → Bool} {s : Nat} (hs : s < 64) : nI s &&& wb al 6 = nI s ↔ cnt (fun j => tbS s j && !al j) 6 = 0 := by
  refine ⟨tk_in hs, fun h => ?_⟩
  rw [tb_wb hs, wb_and]
  refine wb_cong fun j hj => ?_
  have := cnt_zero h j hj
  cases q1 : tbS s j <;> cases q2 : al j <;> simp_all
theorem tk_tie {T : gTown} {al : Nat → Bool} {x m0 y : Int32} {mm uu : Nat} (hO : okT T) (ha : ∀ j, al j = true → j < tN T) (hx : okP x) (hm : m0 = nI mm) (hy : y = nI uu) (hu : uu ≤ mm + 5) (h15 : mm ≤ 15000) : tkF T al x m0 y 64 = tkL T al x m0 y 64 := by
  have hal : ∀ j, al j = true → j < 6 := fun j hj => by have := ha j hj; have := hO.1; omega
  have ev : ∀ b : Nat → Bool, (∀ j, b j = true → j < tN T) → ∃ m, m ≤ 20000 ∧ eaF T b x m0 y = nI m ∧ seE T b x m0 y = nI m := fun b hb => e_tie hO hb hx hm hy hu h15
  have hsub : ∀ s, s < 64 → cnt (fun j => tbS s j && !al j) 6 = 0 → ∀ j, tbS s j = true → j < tN T := fun s hs hc => tk_sub hO.1 ha hs hc
  have hrs : ∀ s, ∀ j, rsB al s j = true → j < tN T := fun s j hj => ha j (by unfold rsB at hj; simp only [Bool.and_eq_true] at hj; exact hj.1)
  -- the worth of a split
  have wv : ∃ w : Nat → Nat, ∀ s, s < 64 → cnt (fun j => tbS s j && !al j) 6 = 0 → w s ≤ 20000 ∧ tkV T al x m0 y s = nI (w s) ∧ mx (seE T (tbS s) x m0 y) (seE T (rsB al s) x m0 y) = nI (w s) := by
    have : ∀ s, ∃ v : Nat, s < 64 → cnt (fun j => tbS s j && !al j) 6 = 0 → v ≤ 20000 ∧ tkV T al x m0 y s = nI v ∧ mx (seE T (tbS s) x m0 y) (seE T (rsB al s) x m0 y) = nI v := by
      intro s
      by_cases c : s < 64 ∧ cnt (fun j => tbS s j && !al j) 6 = 0
      · obtain ⟨p, p1, p2, p3⟩ := ev _ (hsub s c.1 c.2)
        obtain ⟨q, q1, q2, q3⟩ := ev _ (hrs s)
        refine ⟨max p q, fun _ _ => ⟨by omega, ?_, ?_⟩⟩
        · unfold tkV
          show (if eaF T (tbS s) x m0 y ≤ eaF T (rsB al s) x m0 y then eaF T (rsB al s) x m0 y else eaF T (tbS s) x m0 y) = _
          rw [p2, q2]
          by_cases w : p ≤ q
          · rw [if_pos (nI_le w (by omega)), Nat.max_eq_right w]
          · rw [if_neg (fun z => w ((nI_leI (by omega) (by omega)).mp z)), Nat.max_eq_left (by omega)]
        · rw [p3, q3, mx_nI (by omega) (by omega)]
      · exact ⟨0, fun h1 h2 => absurd ⟨h1, h2⟩ c⟩
    exact Classical.axiomOfChoice this
  obtain ⟨w, hw⟩ := wv
  have hsym : ∀ s, s < 64 → cnt (fun j => tbS s j && !al j) 6 = 0 → w (rsN al s) = w s := by
    intro s hs hc
    have h1 := (hw s hs hc).2.2
    have h2 := (hw (rsN al s) (nmB_lt _).1 (rs_sub hal s)).2.2
    have b1 := (hw s hs hc).1
    have b2 := (hw (rsN al s) (nmB_lt _).1 (rs_sub hal s)).1
    rw [rs_rs hal hs hc, rs_eq hal s] at h2
    obtain ⟨p, p1, -, p3⟩ := ev _ (hsub s hs hc)
    obtain ⟨q, q1, -, q3⟩ := ev _ (hrs s)
    rw [p3, q3, mx_nI (by omega) (by omega)] at h1 h2
    have e1 := (nI_eq (by omega) (by omega)).mp h1
    have e2 := (nI_eq (by omega) (by omega)).mp h2
    omega
  -- the reference's least
  have hF : ∀ n, n ≤ 64 → (tkF T al x m0 y n = (-1) ∧ ∀ s, s < n → ¬ cnt (fun j => tbS s j && !al j) 6 = 0) ∨ ∃ s, s < n ∧ cnt (fun j => tbS s j && !al j) 6 = 0 ∧ tkF T al x m0 y n = nI (w s) ∧ ∀ s', s' < n → cnt (fun j => tbS s' j && !al j) 6 = 0 → w s ≤ w s' := by
    intro n
    induction n with
    | zero => exact fun _ => Or.inl ⟨rfl, fun s hs => absurd hs (Nat.not_lt_zero s)⟩
    | succ n ih =>
      intro hn
      rw [tkF]
      by_cases c : cnt (fun j => tbS n j && !al j) 6 = 0
      · obtain ⟨b1, b2, -⟩ := hw n (by omega) c
        rw [if_pos c, b2]
        rcases ih (by omega) with ⟨h1, h2⟩ | ⟨s, h1, h2, h3, h4⟩
        · rw [h1]
          refine Or.inr ⟨n, by omega, c, by rw [smF, if_pos (Or.inl rfl)], fun s' hs' hc' => ?_⟩
          rcases Nat.lt_or_ge s' n with q | q
          · exact absurd hc' (h2 s' q)
          · rw [show s' = n by omega]; exact Nat.le_refl _
        · have b3 := (hw s (by omega) h2).1
          rw [h3]
          by_cases q : w s ≤ w n
          · refine Or.inr ⟨s, by omega, h2, ?_, fun s' hs' hc' => ?_⟩
            · rw [smF, if_neg]
              rintro (z | z)
              · exact nI_m1 (by omega) z
              · exact z (nI_le q (by omega))
            · rcases Nat.lt_or_ge s' n with q2 | q2
              · exact h4 s' q2 hc'
              · rw [show s' = n by omega]; exact q
          · refine Or.inr ⟨n, by omega, c, ?_, fun s' hs' hc' => ?_⟩
            · rw [smF, if_pos (Or.inr (fun z => q ((nI_leI (by omega) (by omega)).mp z)))]
            · rcases Nat.lt_or_ge s' n with q2 | q2
              · have := h4 s' q2 hc'; omega
              · rw [show s' = n by omega]; exact Nat.le_refl _
      · rw [if_neg c]
        rcases ih (by omega) with ⟨h1, h2⟩ | ⟨s, h1, h2, h3, h4⟩
        · refine Or.inl ⟨h1, fun s hs => ?_⟩
          rcases Nat.lt_or_ge s n with q | q
          · exact h2 s q
          · rw [show s = n by omega]; exact c
        · refine Or.inr ⟨s, by omega, h2, h3, fun s' hs' hc' => ?_⟩
          rcases Nat.lt_or_ge s' n with q | q
          · exact h4 s' q hc'
          · rw [show s' = n by omega] at hc'; exact absurd hc' c
  -- the class's least
  have gd : ∀ s, s < 64 → ((nI s &&& wb al 6 = nI s ∧ nI s ≤ wb (fun j => al j && !tbS s j) 6) ↔ (cnt (fun j => tbS s j && !al j) 6 = 0 ∧ s ≤ rsN al s)) := by
    intro s hs
    rw [tk_iff hs, show wb (fun j => al j && !tbS s j) 6 = nI (rsN al s) from wb_nmB (rsB al s), nI_leI (by omega) (by have := (nmB_lt (rsB al s)).1; unfold rsN; omega)]
  have hL : ∀ n, n ≤ 64 → (tkL T al x m0 y n = mxI ∧ ∀ s, s < n → ¬ (cnt (fun j => tbS s j && !al j) 6 = 0 ∧ s ≤ rsN al s)) ∨ ∃ s, s < n ∧ cnt (fun j => tbS s j && !al j) 6 = 0 ∧ tkL T al x m0 y n = nI (w s) ∧ ∀ s', s' < n → (cnt (fun j => tbS s' j && !al j) 6 = 0 ∧ s' ≤ rsN al s') → w s ≤ w s' := by
    intro n
    induction n with
    | zero => exact fun _ => Or.inl ⟨rfl, fun s hs => absurd hs (Nat.not_lt_zero s)⟩
    | succ n ih =>
      intro hn
      rw [tkL]
      by_cases c : nI n &&& wb al 6 = nI n ∧ nI n ≤ wb (fun j => al j && !tbS n j) 6
      · have c2 := (gd n (by omega)).mp c
        obtain ⟨b1, -, b2⟩ := hw n (by omega) c2.1
        have b2' : mx (seE T (tbS n) x m0 y) (seE T (fun j => al j && !tbS n j) x m0 y) = nI (w n) := b2
        rw [if_pos c, b2']
        rcases ih (by omega) with ⟨h1, h2⟩ | ⟨s, h1, h2, h3, h4⟩
        · rw [h1]
          refine Or.inr ⟨n, by omega, c2.1, ?_, fun s' hs' hc' => ?_⟩
          · unfold mn
            rw [if_pos (ltMx (by omega))]
          · rcases Nat.lt_or_ge s' n with q | q
            · exact absurd hc' (h2 s' q)
            · rw [show s' = n by omega]; exact Nat.le_refl _
        · have b3 := (hw s (by omega) h2).1
          rw [h3]
          by_cases q : w n < w s
          · refine Or.inr ⟨n, by omega, c2.1, ?_, fun s' hs' hc' => ?_⟩
            · unfold mn
              rw [if_pos (nI_lt q (by omega))]
            · rcases Nat.lt_or_ge s' n with q2 | q2
              · have := h4 s' q2 hc'; omega
              · rw [show s' = n by omega]; exact Nat.le_refl _
          · refine Or.inr ⟨s, by omega, h2, ?_, fun s' hs' hc' => ?_⟩
            · unfold mn
              rw [if_neg (fun z => q ((nI_ltI (by omega) (by omega)).mp z))]
            · rcases Nat.lt_or_ge s' n with q2 | q2
              · exact h4 s' q2 hc'
              · rw [show s' = n by omega]; omega
      · have c2 : ¬ (cnt (fun j => tbS n j && !al j) 6 = 0 ∧ n ≤ rsN al n) := fun z => c ((gd n (by omega)).mpr z)
        rw [if_neg c]
        rcases ih (by omega) with ⟨h1, h2⟩ | ⟨s, h1, h2, h3, h4⟩
        · refine Or.inl ⟨h1, fun s hs => ?_⟩
          rcases Nat.lt_or_ge s n with q | q
          · exact h2 s q
          · rw [show s = n by omega]; exact c2
        · refine Or.inr ⟨s, by omega, h2, h3, fun s' hs' hc' => ?_⟩
          rcases Nat.lt_or_ge s' n with q | q
          · exact h4 s' q hc'
          · rw [show s' = n by omega] at hc'; exact absurd hc' c2
  have z0 : cnt (fun j => tbS 0 j && !al j) 6 = 0 := cnt_of0 fun j _ => by simp [tbS]
  have half : ∀ s, s < 64 → cnt (fun j => tbS s j && !al j) 6 = 0 → ∃ s', s' < 64 ∧ (cnt (fun j => tbS s' j && !al j) 6 = 0 ∧ s' ≤ rsN al s') ∧ w s' = w s := by
    intro s hs hc
    by_cases q : s ≤ rsN al s
    · exact ⟨s, hs, ⟨hc, q⟩, rfl⟩
    · refine ⟨rsN al s, (nmB_lt _).1, ⟨rs_sub hal s, ?_⟩, hsym s hs hc⟩
      rw [rs_inv hal hs hc]; omega
  rcases hF 64 (Nat.le_refl _) with ⟨-, h2⟩ | ⟨s, h1, h2, h3, h4⟩
  · exact absurd z0 (h2 0 (by decide))
  · obtain ⟨s', g1, g2, g3⟩ := half s h1 h2
    rcases hL 64 (Nat.le_refl _) with ⟨-, k2⟩ | ⟨t, k1, k2, k3, k4⟩
    · exact absurd g2 (k2 s' g1)
    · rw [h3, k3]
      have e1 := h4 t k1 k2
      have e2 := k4 s' g1 g2
      congr 1
      omega
