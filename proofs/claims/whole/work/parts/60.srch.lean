/-! the search's numbers -/
theorem mx_nI {a b : Nat} (ha : a < 2 ^ 31) (hb : b < 2 ^ 31) : mx (nI a) (nI b) = nI (max a b) := by
  unfold mx
  by_cases h : a < b
  · rw [if_pos (nI_lt h hb), Nat.max_eq_right (by omega)]
  · rw [if_neg (fun z => h ((nI_ltI ha hb).mp z)), Nat.max_eq_left (by omega)]
theorem ab_nIf : ∀ a : Fin 10, ∀ b : Fin 10, ab (nI a.val - nI b.val) = nI ((a.val - b.val) + (b.val - a.val)) := by decide +kernel
theorem ab_nI {a b : Nat} (ha : a ≤ 9) (hb : b ≤ 9) : ab (nI a - nI b) = nI ((a - b) + (b - a)) := ab_nIf ⟨a, by omega⟩ ⟨b, by omega⟩
theorem opn_nI (k : Nat) : ∃ o, o ≤ 1 ∧ opn k = nI o := by
  unfold opn
  split
  · exact ⟨0, by omega, rfl⟩
  · exact ⟨0, by omega, rfl⟩
  · exact ⟨1, by omega, rfl⟩
theorem brg_nI {k hp p mm uu : Nat} (h1 : hp ≤ 9) (h2 : p ≤ 9) (h3 : mm ≤ 100000) (h4 : uu ≤ 100000) : ∃ m', brg k (nI hp) (nI p) (nI mm) (nI uu) = nI m' ∧ mm ≤ m' ∧ m' ≤ max mm uu + 10 := by
  obtain ⟨o, ho, e⟩ := opn_nI k
  refine ⟨max mm uu + ((p - hp) + (hp - p)) + o, ?_, by omega, by omega⟩
  unfold brg
  rw [mx_nI (by omega) (by omega), ab_nI h2 h1, e, nI_add, nI_add]
theorem ltA_nI {k l n m : Nat} (hl : l ≤ 9) (hn : n ≤ 9) (hm : m ≤ 20000) : ∃ q, ltA k (nI l) (nI n) (nI m) = nI q ∧ q ≤ 200000 := by
  by_cases hk : k = 2
  · exact ⟨0, by rw [hk]; rfl, by omega⟩
  · rw [ltA_n hk, pk_mul]
    by_cases h : 4 * l ≤ m
    · refine ⟨(m - 4 * l) * n, ?_, ?_⟩
      · rw [pk_sub h, show nI 0 = nI 0 from rfl, mx_nI (by omega) (by omega), Nat.max_eq_right (by omega), pk_mul]
      · exact Nat.le_trans (Nat.mul_le_mul (show m - 4 * l ≤ 20000 by omega) hn) (by omega)
    · refine ⟨0, ?_, by omega⟩
      exact (lt_neg (fun z => absurd (pk_sneg (show 4 * l < 2 ^ 30 by omega) (show m < 4 * l by omega)) (Int32.not_lt.mpr z))).symm
theorem kpu_nI (k m : Nat) : ∃ u, kpu k (nI m) = nI u ∧ u ≤ m + 5 := by
  by_cases h : k = 4
  · subst h; exact ⟨m + 5, nI_add m 5, Nat.le_refl _⟩
  · exact ⟨0, kpu_0 h, by omega⟩
/-- a state of a round with m openings left: minute, late -/
def okS (m : Nat) (z : gZs) (mm ll : Nat) : Prop := okP z.1 ∧ z.2.1 = nI mm ∧ z.2.2.2 = nI ll ∧ (∃ uu, z.2.2.1 = nI uu ∧ uu ≤ mm + 5) ∧ mm + 15 * m ≤ 20000 ∧ ll + 200000 * m ≤ 2000000
theorem okS_step {T : gTown} {m h mm ll : Nat} {z : gZs} (hO : okT T) (hh : h < tN T) (hz : okS (m + 1) z mm ll) : ∃ mm' ll', mm ≤ mm' ∧ ll ≤ ll' ∧ okS m (rnS T h z) mm' ll' := by
  obtain ⟨⟨p, hp, ep⟩, e1, e2, ⟨uu, eu, hu⟩, h1, h2⟩ := hz
  obtain ⟨-, ⟨q, hq, eq⟩, ⟨l, -, hl, el⟩, ⟨n, -, hn, en⟩⟩ := hO.2 h hh
  obtain ⟨m', b1, b2, b3⟩ := brg_nI (k := tK T h) hq hp (show mm ≤ 100000 by omega) (show uu ≤ 100000 by omega)
  obtain ⟨t, t1, t2⟩ := ltA_nI (k := tK T h) hl hn (show m' ≤ 20000 by omega)
  obtain ⟨u', u1, u2⟩ := kpu_nI (tK T h) m'
  refine ⟨m', ll + t, b2, by omega, ⟨q, hq, eq⟩, ?_, ?_, ⟨u', ?_, u2⟩, by omega, by omega⟩
  · show brg (tK T h) (tP T h) z.1 z.2.1 z.2.2.1 = nI m'
    rw [eq, ep, e1, eu, b1]
  · show z.2.2.2 + ltA (tK T h) (tL T h) (tE T h) (brg (tK T h) (tP T h) z.1 z.2.1 z.2.2.1) = nI (ll + t)
    rw [eq, ep, e1, eu, b1, el, en, t1, e2, nI_add]
  · show kpu (tK T h) (brg (tK T h) (tP T h) z.1 z.2.1 z.2.2.1) = nI u'
    rw [eq, ep, e1, eu, b1, u1]
/-! the search without cut-offs -/
def gD (T : gTown) (mf : Bool) {α : Type} (Uf : gZs → (Nat → Int32) → α → α) : Nat → (Nat → Bool) → gZs → Nat → (Nat → Int32) → α → α
  | 0, _, z, _, O, a => Uf z O a
  | m + 1, b, z, d, O, a => fN (fun i a => if mB T mf b i then gD T mf Uf m (clr b i) (rnS T i z) (d + 1) (upd O d (nI i)) a else a) (tN T) a
def ltz (cl : Bool) (z : gZs) : Int32 := if cl then z.2.2.2 else nI 0
def uC (cl : Bool) (K : Nat) (z : gZs) (O : Nat → Int32) (a : gAc) : gAc := if btr (ltz cl z) z.2.1 a.1 a.2.1 = false then a else (ltz cl z, z.2.1, nI K, fil O a.2.2.2 K)
theorem btr_mono {x y x' y' bl be : Int32} (hx : x ≤ x') (hy : y ≤ y') (h : btr x y bl be = false) : btr x' y' bl be = false := by
  unfold btr at h ⊢
  rw [Bool.or_eq_false_iff] at h ⊢
  have h1 : ¬ x < bl := of_decide_eq_false h.1
  have h2 : ¬ x' < bl := fun z => h1 (Int32.lt_of_le_of_lt hx z)
  refine ⟨decide_eq_false h2, ?_⟩
  by_cases e : x' = bl
  · have e2 : x = bl := Int32.le_antisymm (e ▸ hx) (Int32.not_lt.mp h1)
    have h3 := h.2
    rw [decide_eq_true e2, Bool.true_and] at h3
    have h4 : ¬ y < be := of_decide_eq_false h3
    rw [decide_eq_false (fun z => h4 (Int32.lt_of_le_of_lt hy z)), Bool.and_false]
  · rw [decide_eq_false e, Bool.false_and]
theorem fN_id {α : Type} {F : Nat → α → α} {a : α} : ∀ {n : Nat}, (∀ i, i < n → F i a = a) → fN F n a = a
  | 0, _ => rfl
  | n + 1, h => by rw [fN, fN_id (fun i hi => h i (Nat.lt_succ_of_lt hi)), h n (Nat.lt_succ_self n)]
theorem ltz_le {cl : Bool} {z z' : gZs} {l l' : Nat} (h1 : z.2.2.2 = nI l) (h2 : z'.2.2.2 = nI l') (h : l ≤ l') (h3 : l' < 2 ^ 31) : ltz cl z ≤ ltz cl z' := by
  cases cl with
  | true => show z.2.2.2 ≤ z'.2.2.2; rw [h1, h2]; exact nI_le h h3
  | false => exact Int32.le_refl _
theorem mB_lt {T : gTown} {mf : Bool} {b : Nat → Bool} {i : Nat} (hb : ∀ j, b j = true → j < tN T) (h : mB T mf b i = true) : i < tN T := hb i (mB_sub h)
theorem clr_lt {n i : Nat} {b : Nat → Bool} (hb : ∀ j, b j = true → j < n) : ∀ j, clr b i j = true → j < n := fun j hj => hb j (by simp only [clr, Bool.and_eq_true] at hj; exact hj.1)
theorem cnt_clr6 {b : Nat → Bool} {i m : Nat} (hi : i < 6) (hb : b i = true) (h : cnt b 6 = m + 1) : cnt (clr b i) 6 = m := by
  have := cnt_clr hb hi
  omega
theorem gD_skip {T : gTown} {cl mf : Bool} {K : Nat} (hO : okT T) : ∀ {m : Nat} {b : Nat → Bool} {z : gZs} {d : Nat} {O : Nat → Int32} {acc : gAc} {mm ll : Nat}, (∀ j, b j = true → j < tN T) → okS m z mm ll → btr (ltz cl z) z.2.1 acc.1 acc.2.1 = false → gD T mf (uC cl K) m b z d O acc = acc
  | 0, b, z, d, O, acc, mm, ll, hb, hz, h => by rw [gD, uC, if_pos h]
  | m + 1, b, z, d, O, acc, mm, ll, hb, hz, h => by
    rw [gD]
    refine fN_id fun i hi => ?_
    by_cases q : mB T mf b i = true
    · rw [if_pos q]
      obtain ⟨mm', ll', h1, h2, h3⟩ := okS_step hO hi hz
      refine gD_skip hO (clr_lt hb) h3 (btr_mono (ltz_le hz.2.2.1 h3.2.2.1 h2 (by have := h3.2.2.2.2.2; omega)) ?_ h)
      rw [hz.2.1, h3.2.1]
      exact nI_le h1 (by have := h3.2.2.2.2.1; omega)
    · rw [if_neg q]
theorem dfC_gD {T : gTown} {cl mf : Bool} (hO : okT T) : ∀ {m M : Nat} {b : Nat → Bool} {z : gZs} {d : Nat} {O : Nat → Int32} {acc : gAc} {mm ll : Nat}, cnt b 6 = m → m < M → (∀ j, b j = true → j < tN T) → okS m z mm ll → dfC T cl mf M b z.1 z.2.1 z.2.2.1 (ltz cl z) d O acc = gD T mf (uC cl (d + m)) m b z d O acc
  | m, 0, b, z, d, O, acc, mm, ll, hc, hM, hb, hz => absurd hM (Nat.not_lt_zero _)
  | 0, M + 1, b, z, d, O, acc, mm, ll, hc, hM, hb, hz => by
    rw [dfC_s, gD, uC]
    by_cases q : btr (ltz cl z) z.2.1 acc.1 acc.2.1 = false
    · rw [if_pos q, if_pos q]
    · rw [if_neg q, if_neg q, if_pos ((wb_0 b).mpr hc), Nat.add_zero]
  | m + 1, M + 1, b, z, d, O, acc, mm, ll, hc, hM, hb, hz => by
    rw [dfC_s]
    by_cases q : btr (ltz cl z) z.2.1 acc.1 acc.2.1 = false
    · rw [if_pos q, gD_skip hO hb hz q]
    · rw [if_neg q, if_neg (fun w => by rw [(wb_0 b).mp w] at hc; omega), gD]
      refine fN_cong fun i a hi => ?_
      unfold dfF
      by_cases q2 : mB T mf b i = true
      · rw [if_pos q2, if_pos q2]
        obtain ⟨mm', ll', h1, h2, h3⟩ := okS_step hO hi hz
        have e := dfC_gD (cl := cl) (mf := mf) hO (M := M) (d := d + 1) (O := upd O d (nI i)) (acc := a) (cnt_clr6 (by have := hO.1; omega) (mB_sub q2) hc) (by omega) (clr_lt hb) h3
        rw [show d + (m + 1) = d + 1 + m by omega, ← e]
        have e2 : ltz cl z + ltC cl (tK T i) (tL T i) (tE T i) (brg (tK T i) (tP T i) z.1 z.2.1 z.2.2.1) = ltz cl (rnS T i z) := by
          cases cl with
          | true => rfl
          | false => rfl
        rw [e2]
        rfl
      · rw [if_neg q2, if_neg q2]
