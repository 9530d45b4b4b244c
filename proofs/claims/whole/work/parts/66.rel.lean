/-! how the class's state stands to the reference's -/
def nRel (T : gTown) (bd : Nat) (N : gNi) (r s : Nat → Int32) (p m u sn : Int32) : Prop := N.2.2.1 = p ∧ N.2.2.2.1 = m ∧ N.2.2.2.2 = u ∧ N.1 = sn ∧ okP p ∧ (∃ mm uu, m = nI mm ∧ u = nI uu ∧ mm ≤ bd ∧ uu ≤ mm + 5) ∧
  (∃ (k : Nat) (sh : Nat → Nat), k ≤ 6 ∧ sn = nI k ∧ ∀ j, j < k → sh j < tN T ∧ N.2.1 6 j = nI (sh j) ∧ s (3 * j) = nI (sh j) ∧ N.2.1 7 j = s (3 * j + 1) ∧ N.2.1 8 j = s (3 * j + 2) ∧ (s (3 * j + 2) = nI 0 ∨ s (3 * j + 2) = nI 1)) ∧
  (∀ h, h < tN T → N.2.1 2 h = r (8 * h + 4) ∧ N.2.1 3 h = r (8 * h + 5) ∧ N.2.1 4 h = r (8 * h + 6) ∧ N.2.1 5 h = r (8 * h + 7) ∧ (N.2.1 2 h = (-1) ∨ ∃ q, q ≤ bd ∧ N.2.1 2 h = nI q)) ∧
  (∀ h, tN T ≤ h → h < 6 → N.2.1 2 h = (-1) ∧ N.2.1 4 h = nI 0 ∧ N.2.1 5 h = nI 0) ∧ okZ (N.2.1 8)
theorem nI_not_lt {a b : Nat} (h : a ≤ b) (hb : b < 2 ^ 31) : ¬ nI b < nI a := fun z => by have := (nI_ltI hb (by omega)).mp z; omega
theorem nRel.up {T : gTown} {bd bd' : Nat} {N : gNi} {r s : Nat → Int32} {p m u sn : Int32} (hb : bd ≤ bd') (h : nRel T bd N r s p m u sn) : nRel T bd' N r s p m u sn := by
  obtain ⟨h1, h2, h3, h4, h5, ⟨mm, uu, a1, a2, a3, a4⟩, h7, h8, h9, h10⟩ := h
  refine ⟨h1, h2, h3, h4, h5, ⟨mm, uu, a1, a2, by omega, a4⟩, h7, fun h hh => ?_, h9, h10⟩
  obtain ⟨b1, b2, b3, b4, b5⟩ := h8 h hh
  refine ⟨b1, b2, b3, b4, ?_⟩
  rcases b5 with e | ⟨q, hq, e⟩
  · exact Or.inl e
  · exact Or.inr ⟨q, by omega, e⟩
/-- the image: none, or it stands to the reference's -/
def iRel (i : Nat) (T : gTown) (g : Nat → Int32) (K : gNi) (f6 f24 f25 f26 f27 f28 : Int32) (A29 A30 : Nat → Int32) : Prop := ∃ c, c ≤ i ∧ g 7 = nI c ∧ f6 = nI c ∧ ((g 6 = 0 ∧ (f24 = (-1) ∨ ∃ c', c' < c ∧ f24 = nI c')) ∨ (¬ g 6 = 0 ∧ f24 = nI c ∧ rowsOf A29 T ∧ nRel T (1000 + 4 * i) K A29 A30 f25 f27 f26 f28))
def pRel (n : Nat) (pf : Nat → Int32) (f1 : Int32) (A0 : Nat → Int32) : Prop := n ≤ 30 ∧ f1 = nI n ∧ ∀ j, j < n → A0 j = pf j ∧ ∃ c, c < 127 ∧ pf j = nI c
def hRel (g : Nat → Int32) (f19 : Int32) : Prop := ∃ c, c ≤ 30 ∧ g 8 = nI c ∧ f19 = nI c
def Rel (i : Nat) (S : gSt) (f : gF) (A : gA) : Prop := okT S.1 ∧ f 2 = nI (tN S.1) ∧ rowsOf (A 7) S.1 ∧ pRel S.2.1 S.2.2.1 (f 1) (A 0) ∧ nRel S.1 (1000 + 4 * i) S.2.2.2.2.1 (A 7) (A 21) (f 3) (f 5) (f 4) (f 20) ∧ iRel i S.1 S.2.2.2.1 S.2.2.2.2.2.1 (f 6) (f 24) (f 25) (f 26) (f 27) (f 28) (A 29) (A 30) ∧ hRel S.2.2.2.1 (f 19)
theorem iRel.up {i : Nat} {T : gTown} {g : Nat → Int32} {K : gNi} {f6 f24 f25 f26 f27 f28 : Int32} {A29 A30 : Nat → Int32} (h : iRel i T g K f6 f24 f25 f26 f27 f28 A29 A30) : iRel (i + 4) T g K f6 f24 f25 f26 f27 f28 A29 A30 := by
  obtain ⟨c, h1, h2, h3, h4⟩ := h
  refine ⟨c, by omega, h2, h3, ?_⟩
  rcases h4 with h | ⟨a1, a2, a3, a4⟩
  · exact Or.inl h
  · exact Or.inr ⟨a1, a2, a3, a4.up (by omega)⟩
theorem Rel.up {i : Nat} {S : gSt} {f : gF} {A : gA} (h : Rel i S f A) : Rel (i + 4) S f A := ⟨h.1, h.2.1, h.2.2.1, h.2.2.2.1, h.2.2.2.2.1.up (by omega), h.2.2.2.2.2.1.up, h.2.2.2.2.2.2⟩
theorem Rel.kp {i : Nat} {S : gSt} {f f' : gF} {A A' : gA} (h : Rel i S f A) (hf : kpF f f') (hA : kpA A A') : Rel i S f' A' := by
  unfold Rel
  rw [hf 2 rfl, hA 7 rfl, hf 1 rfl, hA 0 rfl, hA 21 rfl, hf 3 rfl, hf 5 rfl, hf 4 rfl, hf 20 rfl, hf 6 rfl, hf 24 rfl, hf 25 rfl, hf 26 rfl, hf 27 rfl, hf 28 rfl, hA 29 rfl, hA 30 rfl, hf 19 rfl]
  exact h
/-- scratch of the class changes nothing -/
theorem Rel.sc {i : Nat} {S S' : gSt} {f : gF} {A : gA} (h : Rel i S f A) (h1 : S'.1 = S.1) (h2 : S'.2.1 = S.2.1) (h3 : S'.2.2.1 = S.2.2.1) (h4 : S'.2.2.2.1 6 = S.2.2.2.1 6) (h5 : S'.2.2.2.1 7 = S.2.2.2.1 7) (h6 : S'.2.2.2.1 8 = S.2.2.2.1 8) (h7 : S'.2.2.2.2.1 = S.2.2.2.2.1) (h8 : S'.2.2.2.2.2.1 = S.2.2.2.2.2.1) : Rel i S' f A := by
  unfold Rel iRel hRel
  rw [h1, h2, h3, h4, h5, h6, h7, h8]
  exact h
theorem Rel.sn {i : Nat} {S : gSt} {f : gF} {A : gA} (h : Rel i S f A) : ∃ (sk : Nat) (sh : Nat → Nat), sk ≤ 6 ∧ f 20 = nI sk ∧ S.2.2.2.2.1.1 = nI sk ∧ (∀ k, k < sk → A 21 (3 * k) = nI (sh k) ∧ sh k < 6) ∧ ∀ j, j < sk → sh j < tN S.1 ∧ S.2.2.2.2.1.2.1 6 j = nI (sh j) ∧ S.2.2.2.2.1.2.1 7 j = A 21 (3 * j + 1) ∧ S.2.2.2.2.1.2.1 8 j = A 21 (3 * j + 2) ∧ (A 21 (3 * j + 2) = nI 0 ∨ A 21 (3 * j + 2) = nI 1) := by
  obtain ⟨hO, -, -, -, ⟨-, -, -, h4, -, -, ⟨k, sh, a1, a2, a3⟩, -⟩, -⟩ := h
  exact ⟨k, sh, a1, a2, h4.trans a2, fun j hj => ⟨(a3 j hj).2.2.1, by have := (a3 j hj).1; have := hO.1; omega⟩, fun j hj => ⟨(a3 j hj).1, (a3 j hj).2.1, (a3 j hj).2.2.2.1, (a3 j hj).2.2.2.2.1, (a3 j hj).2.2.2.2.2⟩⟩
theorem nRel.sh {T : gTown} {bd : Nat} {N : gNi} {r s : Nat → Int32} {p m u sn : Int32} (hO : okT T) (h : nRel T bd N r s p m u sn) : shN (N.2.1 2) = shB T r := funext fun j => by
  obtain ⟨-, -, -, -, -, -, -, h8, h9, -⟩ := h
  unfold shN shB
  rcases Nat.lt_or_ge j (tN T) with w | w
  · have := hO.1
    rw [decide_eq_true w, decide_eq_true (show j < 6 by omega)]
    unfold outB sF
    rw [(h8 j w).1]
  · rw [decide_eq_false (show ¬ j < tN T by omega), Bool.and_false]
    by_cases w6 : j < 6
    · unfold outB
      rw [(h9 j w w6).1]; simp
    · rw [decide_eq_false w6, Bool.and_false]
theorem nRel.okN {T : gTown} {bd : Nat} {N : gNi} {r s : Nat → Int32} {p m u sn : Int32} (h : nRel T bd N r s p m u sn) : okN T (N.2.1 2) := fun j h1 h2 => (h.2.2.2.2.2.2.2.2.1 j h1 h2).1
theorem nRel.ok {T : gTown} {bd : Nat} {N : gNi} {r s : Nat → Int32} {p m u sn : Int32} (hO : okT T) (hb : bd ≤ 20000) (h : nRel T bd N r s p m u sn) : ∀ j, shB T r j = true → j < tN T ∧ N.2.1 2 j = sF r j ∧ ∃ q, q ≤ 20000 ∧ N.2.1 2 j = nI q := fun j hj => by
  have hj1 := shB_lt j hj
  have e := h.sh hO
  obtain ⟨-, -, -, -, -, -, -, h8, -, -⟩ := h
  obtain ⟨b1, -, -, -, b5⟩ := h8 j hj1
  refine ⟨hj1, b1, ?_⟩
  rcases b5 with w | ⟨q, hq, w⟩
  · rw [← e] at hj
    unfold shN outB at hj
    rw [w] at hj
    simp at hj
  · exact ⟨q, by omega, w⟩
/-! the page -/
theorem ftF_cong {g g' : Nat → Int32} {n : Nat} (h : ∀ j, j < n → g j = g' j) : ∀ m k, ftF g n m k = ftF g' n m k
  | 0, _ => rfl
  | m + 1, k => by
    rw [ftF, ftF]
    by_cases c : k < n
    · rw [h k c, ftF_cong h m (k + 1)]
    · rw [if_neg (fun z => c z.1), if_neg (fun z => c z.1)]
theorem ftF_len {g : Nat → Int32} {n : Nat} : ∀ {m k : Nat}, k ≤ n → ftF g n m k ≤ n
  | 0, k, h => h
  | m + 1, k, h => by
    rw [ftF]
    by_cases c : k < n ∧ gdF k (g k) = true
    · rw [if_pos c]; exact ftF_len (by omega)
    · rw [if_neg c]; exact h
abbrev MP (E : gEnv) (a : Nat → Nat) (tl : va_W) (i : Nat) (y : Int32) (S' : gSt) (v : Option Value) (w : va_W) : Prop := v = some (.int y) ∧ ∃ (f' : gF) (hh' : Int64) (A' : gA), w = mC E a f' hh' A' ++ tl ∧ Rel (i + 4) S' f' A'
theorem MP.sc {E : gEnv} {a : Nat → Nat} {f : gF} {hh : Int64} {A : gA} {tl : va_W} {i : Nat} {y r : Int32} {S' : gSt} {v : Option Value} {w : va_W} (h : scP E a f hh A tl r v w) (e : y = r) (hR : Rel (i + 4) S' f A) : MP E a tl i y S' v w := by
  obtain ⟨h1, f', A', h2, h3, h4⟩ := h
  exact ⟨by rw [h1, e], f', hh, A', h2, hR.kp h3 h4⟩
