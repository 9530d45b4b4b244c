/-! the reference's codes, digit by digit -/
theorem fN_add {α : Type} (F : Nat → α → α) : ∀ (p q : Nat) (a : α), fN F (p + q) a = fN (fun e => F (p + e)) q (fN F p a)
  | p, 0, a => rfl
  | p, q + 1, a => by
    show F (p + q) (fN F (p + q) a) = F (p + q) (fN (fun e => F (p + e)) q (fN F p a))
    rw [fN_add F p q a]
theorem fN_split {α : Type} (F : Nat → α → α) (q : Nat) : ∀ (p : Nat) (a : α), fN F (p * q) a = fN (fun d a => fN (fun e => F (d * q + e)) q a) p a
  | 0, a => by rw [Nat.zero_mul]; rfl
  | p + 1, a => by
    rw [Nat.add_mul, Nat.one_mul, fN_add, fN_split F q p a]
    rfl
theorem memN_cnt {b : Nat → Bool} : ∀ {n j : Nat}, j < cnt b n → cnt b (memN b n j) = j
  | 0, j, h => absurd h (Nat.not_lt_zero j)
  | i + 1, j, h => by
    unfold memN
    by_cases q : b i = true ∧ cnt b i = j
    · rw [if_pos q]; exact q.2
    · rw [if_neg q]
      refine memN_cnt ?_
      rw [cnt] at h
      cases e : b i with
      | false => rw [e] at h; simpa using h
      | true =>
        rw [e] at h
        have h2 : j < cnt b i + 1 := by simpa using h
        rcases Nat.lt_or_ge j (cnt b i) with z | z
        · exact z
        · exact absurd ⟨e, by omega⟩ q
theorem memN_inj {b : Nat → Bool} {n d e : Nat} (hd : d < cnt b n) (he : e < cnt b n) (h : memN b n d = memN b n e) : d = e := by rw [← memN_cnt hd, h, memN_cnt he]
theorem memN_s {b : Nat → Bool} {n d : Nat} (hd : d < cnt b n) : memN b (n + 1) d = memN b n d := by
  have e : memN b (n + 1) d = if b n = true ∧ cnt b n = d then n else memN b n d := rfl
  rw [e, if_neg (fun z => by omega)]
theorem fN_mem {α : Type} {b : Nat → Bool} {H : Nat → α → α} (hH : ∀ i a, b i = false → H i a = a) : ∀ (n : Nat) (a : α), fN H n a = fN (fun d => H (memN b n d)) (cnt b n) a
  | 0, a => rfl
  | n + 1, a => by
    have ih := fN_mem hH n a
    rw [fN, ih, cnt]
    cases e : b n with
    | false =>
      rw [hH n _ e]
      simp only [Bool.false_eq_true, if_false, Nat.add_zero]
      exact fN_cong fun d a' hd => by rw [memN_s hd]
    | true =>
      simp only [if_true]
      rw [fN]
      have e1 : memN b (n + 1) (cnt b n) = n := by
        have e2 : memN b (n + 1) (cnt b n) = if b n = true ∧ cnt b n = cnt b n then n else memN b n (cnt b n) := rfl
        rw [e2, if_pos ⟨e, rfl⟩]
      rw [e1]
      congr 1
      exact fN_cong fun d a' hd => by rw [memN_s hd]
/-! which digits are used -/
def usB (dg : Nat → Nat) : Nat → Nat → Bool
  | 0 => fun _ => false
  | j + 1 => fun d => usB dg j d || decide (d = dg j)
theorem usB_iff {dg : Nat → Nat} {d : Nat} : ∀ {j : Nat}, usB dg j d = true ↔ ∃ k, k < j ∧ dg k = d
  | 0 => ⟨fun h => absurd h (by simp [usB]), fun ⟨k, hk, _⟩ => absurd hk (Nat.not_lt_zero k)⟩
  | j + 1 => by
    have e : usB dg (j + 1) d = (usB dg j d || decide (d = dg j)) := rfl
    rw [e, Bool.or_eq_true, usB_iff]
    constructor
    · rintro (⟨k, hk, e⟩ | e)
      · exact ⟨k, by omega, e⟩
      · exact ⟨j, by omega, (of_decide_eq_true e).symm⟩
    · rintro ⟨k, hk, e⟩
      rcases Nat.lt_or_ge k j with q | q
      · exact Or.inl ⟨k, q, e⟩
      · refine Or.inr (decide_eq_true ?_)
        rw [← e, show k = j by omega]
theorem usB_cong {dg dg' : Nat → Nat} : ∀ {j : Nat}, (∀ k, k < j → dg k = dg' k) → ∀ d, usB dg j d = usB dg' j d
  | 0, _, d => rfl
  | j + 1, h, d => by
    show (usB dg j d || decide (d = dg j)) = (usB dg' j d || decide (d = dg' j))
    rw [usB_cong (fun k hk => h k (Nat.lt_succ_of_lt hk)) d, h j (Nat.lt_succ_self j)]
theorem cnt_put {b : Nat → Bool} {x : Nat} : ∀ {K : Nat}, x < K → cnt (fun d => b d || decide (d = x)) K = cnt b K + (if b x = true then 0 else 1)
  | 0, h => absurd h (Nat.not_lt_zero x)
  | K + 1, h => by
    rw [cnt, cnt]
    rcases Nat.lt_or_ge x K with q | q
    · rw [cnt_put q, decide_eq_false (show ¬ K = x by omega), Bool.or_false]
      omega
    · have e : x = K := by omega
      subst e
      have e2 : cnt (fun d => b d || decide (d = x)) x = cnt b x := cnt_cong fun j hj => by rw [decide_eq_false (show ¬ j = x by omega), Bool.or_false]
      rw [e2, decide_eq_true rfl, Bool.or_true]
      cases b x <;> simp
theorem usB_cnt {dg : Nat → Nat} {K : Nat} (hd : ∀ j, j < K → dg j < K) : ∀ {j : Nat}, j ≤ K → cnt (usB dg j) K ≤ j ∧ (cnt (usB dg j) K = j ↔ ∀ k, k < j → usB dg k (dg k) = false)
  | 0, _ => ⟨Nat.le_of_eq (cnt_of0 fun _ _ => rfl), fun _ k hk => absurd hk (Nat.not_lt_zero k), fun _ => cnt_of0 (fun _ _ => rfl)⟩
  | j + 1, hj => by
    obtain ⟨h1, h2⟩ := usB_cnt hd (show j ≤ K by omega)
    have e : cnt (usB dg (j + 1)) K = cnt (usB dg j) K + (if usB dg j (dg j) = true then 0 else 1) := cnt_put (hd j (by omega))
    rw [e]
    cases q : usB dg j (dg j) with
    | true =>
      simp only [if_true, Nat.add_zero]
      refine ⟨by omega, fun z => by omega, fun z => ?_⟩
      have := z j (by omega)
      rw [q] at this
      exact absurd this (by decide)
    | false =>
      simp only [Bool.false_eq_true, if_false]
      refine ⟨by omega, fun z k hk => ?_, fun z => ?_⟩
      · rcases Nat.lt_or_ge k j with w | w
        · exact h2.mp (by omega) k w
        · rw [show k = j by omega]; exact q
      · rw [h2.mpr (fun k hk => z k (by omega))]
theorem cnt_full {b : Nat → Bool} : ∀ {K : Nat}, cnt b K = K ↔ ∀ d, d < K → b d = true
  | 0 => ⟨fun _ d hd => absurd hd (Nat.not_lt_zero d), fun _ => rfl⟩
  | K + 1 => by
    have h1 := cnt_le b K
    rw [cnt]
    constructor
    · intro h d hd
      cases q : b K with
      | false => rw [q] at h; simp at h; omega
      | true =>
        rw [q] at h
        simp only [if_true] at h
        rcases Nat.lt_or_ge d K with w | w
        · exact cnt_full.mp (by omega) d w
        · rw [show d = K by omega]; exact q
    · intro h
      rw [cnt_full.mpr (fun d hd => h d (by omega)), h K (by omega)]
      simp
theorem wb_put6 : ∀ (b0 b1 b2 b3 b4 b5 : Bool) (h : Fin 6), wb (b6 b0 b1 b2 b3 b4 b5) 6 ||| (nI 1 <<< (nI h.val &&& 31)) = wb (fun d => b6 b0 b1 b2 b3 b4 b5 d || decide (d = h.val)) 6 := by decide +kernel
theorem wb_put (b : Nat → Bool) {h : Nat} (hh : h < 6) : wb b 6 ||| (nI 1 <<< (nI h &&& 31)) = wb (fun d => b d || decide (d = h)) 6 := by
  rw [wb_6 b, wb_put6 _ _ _ _ _ _ ⟨h, hh⟩]
  exact wb_cong fun j hj => by rw [← b6_eq b hj]
theorem sdB_wb {K c : Nat} (hK : K ≤ 6) (h0 : 0 < K) : ∀ m, sdB K c m = wb (usB (fun i => c / K ^ i % K) m) 6
  | 0 => (wb_0 _).mpr (cnt_of0 fun _ _ => rfl) |>.symm
  | m + 1 => by
    rw [sdB, sdB_wb hK h0 m, wb_put _ (Nat.lt_of_lt_of_le (Nat.mod_lt _ h0) hK)]
    rfl
theorem full_wb : ∀ K : Fin 7, (nI 1 <<< (nI K.val &&& 31)) - nI 1 = wb (fun d => decide (d < K.val)) 6 := by decide +kernel
theorem wb_eq {b c : Nat → Bool} (h : wb b 6 = wb c 6) {j : Nat} (hj : j < 6) : b j = c j := by
  have e1 := wb_bitI b hj
  have e2 := wb_bitI c hj
  rw [h] at e1
  have e3 := e1.symm.trans e2
  cases q1 : b j <;> cases q2 : c j <;> simp_all
/-- the k-th digit of a code, from its head -/
def dgC (K c k : Nat) : Nat := c / K ^ (K - k - 1) % K
theorem isO_iff {K c : Nat} (hK : K ≤ 6) : isO K c = true ↔ ∀ k, k < K → usB (dgC K c) k (dgC K c k) = false := by
  rcases Nat.eq_zero_or_pos K with h0 | h0
  · subst h0
    exact ⟨fun _ k hk => absurd hk (Nat.not_lt_zero k), fun _ => by show decide (nI 0 = (nI 1 <<< (nI 0 &&& 31)) - nI 1) = true; decide⟩
  · have hd : ∀ j, j < K → dgC K c j < K := fun j _ => Nat.mod_lt _ h0
    have e1 : isO K c = true ↔ ∀ d, d < K → usB (dgC K c) K d = true := by
      unfold isO
      rw [decide_eq_true_iff, sdB_wb hK h0, full_wb ⟨K, by omega⟩]
      have sw : ∀ d, usB (fun i => c / K ^ i % K) K d = true ↔ usB (dgC K c) K d = true := by
        intro d
        rw [usB_iff, usB_iff]
        constructor
        · rintro ⟨k, hk, e⟩
          refine ⟨K - k - 1, by omega, ?_⟩
          show c / K ^ (K - (K - k - 1) - 1) % K = d
          rw [show K - (K - k - 1) - 1 = k by omega]; exact e
        · rintro ⟨k, hk, e⟩
          exact ⟨K - k - 1, by omega, e⟩
      constructor
      · intro h d hd2
        have := wb_eq h (show d < 6 by omega)
        rw [decide_eq_true hd2] at this
        exact (sw d).mp this
      · intro h
        refine wb_cong fun j hj => ?_
        by_cases q : j < K
        · rw [decide_eq_true q]; exact (sw j).mpr (h j q)
        · rw [decide_eq_false q]
          cases e : usB (fun i => c / K ^ i % K) K j with
          | false => rfl
          | true =>
            obtain ⟨k, -, e2⟩ := usB_iff.mp e
            have e3 : c / K ^ k % K < K := Nat.mod_lt _ h0
            exact absurd e2 (by show ¬ c / K ^ k % K = j; omega)
    rw [e1, ← cnt_full]
    exact (usB_cnt hd (Nat.le_refl K)).2
/-! what an order's parts depend on -/
theorem lfB_cong {b : Nat → Bool} {od od' : Nat → Nat} : ∀ {j : Nat}, (∀ k, k < j → od k = od' k) → lfB b od j = lfB b od' j
  | 0, _ => rfl
  | j + 1, h => by rw [lfB, lfB, lfB_cong (fun k hk => h k (Nat.lt_succ_of_lt hk)), h j (Nat.lt_succ_self j)]
theorem alB_cong {T : gTown} {b : Nat → Bool} {od od' : Nat → Nat} : ∀ {j : Nat}, (∀ k, k < j → od k = od' k) → alB T b od j = alB T b od' j
  | 0, _ => rfl
  | j + 1, h => by rw [alB, alB, alB_cong (fun k hk => h k (Nat.lt_succ_of_lt hk)), lfB_cong (fun k hk => h k (Nat.lt_succ_of_lt hk)), h j (Nat.lt_succ_self j)]
theorem rnR_cong {T : gTown} {od od' : Nat → Nat} {z : gZs} : ∀ {j : Nat}, (∀ k, k < j → od k = od' k) → rnR T od z j = rnR T od' z j
  | 0, _ => rfl
  | j + 1, h => by rw [rnR, rnR, rnR_cong (fun k hk => h k (Nat.lt_succ_of_lt hk)), h j (Nat.lt_succ_self j)]
theorem alB_le {T : gTown} {b : Nat → Bool} {od : Nat → Nat} {j : Nat} : ∀ {K : Nat}, j ≤ K → alB T b od K = true → alB T b od j = true
  | 0, hj, h => by rw [show j = 0 by omega]; rfl
  | K + 1, hj, h => by
    rcases Nat.lt_or_ge j (K + 1) with q | q
    · rw [alB, Bool.and_eq_true] at h
      exact alB_le (by omega) h.1
    · rw [show j = K + 1 by omega]; exact h
/-- a code's order counts: a permutation, and (with the midwives' law) allowed -/
def okc (T : gTown) (mf : Bool) (b : Nat → Bool) (K c : Nat) : Bool := isO K c && (!mf || alB T b (odC b (tN T) K c) K)
theorem cod {T : gTown} {mf : Bool} {b0 : Nat → Bool} {K : Nat} {α β : Type} {R : α → β → Prop} {U : gZs → (Nat → Nat) → α → α} {U' : gZs → (Nat → Int32) → β → β} {z0 : gZs} (hO : okT T) (hK : cnt b0 (tN T) = K) (hb0 : ∀ j, b0 j = true → j < tN T)
    (hU : ∀ z od O a a', (∃ mm ll, okS 0 z mm ll) → (∀ k, k < K → O k = nI (od k)) → R a a' → R (U z od a) (U' z O a')) :
    ∀ (m j pre : Nat) (pd : Nat → Nat) (b : Nat → Bool) (z : gZs) (O : Nat → Int32) (a : α) (a' : β), j + m = K →
      (∀ e, e < K ^ m → ∀ k, k < j → dgC K (pre * K ^ m + e) k = pd k) → (∀ k, k < j → usB pd k (pd k) = false) → (∀ k, k < j → pd k < K) → b = lfB b0 (fun k => memN b0 (tN T) (pd k)) j → (∀ d, d < K → b (memN b0 (tN T) d) = !usB pd j d) → (mf = true → alB T b0 (fun k => memN b0 (tN T) (pd k)) j = true) → z = rnR T (fun k => memN b0 (tN T) (pd k)) z0 j → (∃ mm ll, okS m z mm ll) → (∀ k, k < j → O k = nI (memN b0 (tN T) (pd k))) → R a a' →
      R (fN (fun e a => if okc T mf b0 K (pre * K ^ m + e) = true then U (rnR T (odC b0 (tN T) K (pre * K ^ m + e)) z0 K) (odC b0 (tN T) K (pre * K ^ m + e)) a else a) (K ^ m) a) (gD T mf U' m b z j O a') := by
  intro m
  have hK6 : K ≤ 6 := by have := cnt_le b0 (tN T); have := hO.1; omega
  induction m with
  | zero =>
    intro j pre pd b z O a a' hj hdg hnew hlt hb hbu hal hz hok hOk hR
    obtain rfl : j = K := by omega
    show R (if okc T mf b0 j (pre * j ^ 0 + 0) = true then U (rnR T (odC b0 (tN T) j (pre * j ^ 0 + 0)) z0 j) (odC b0 (tN T) j (pre * j ^ 0 + 0)) a else a) (U' z O a')
    have e1 : ∀ k, k < j → dgC j (pre * j ^ 0 + 0) k = pd k := hdg 0 (by rw [Nat.pow_zero]; decide)
    have e2 : ∀ k, k < j → odC b0 (tN T) j (pre * j ^ 0 + 0) k = memN b0 (tN T) (pd k) := fun k hk => by rw [← e1 k hk]; rfl
    have c1 : okc T mf b0 j (pre * j ^ 0 + 0) = true := by
      unfold okc
      rw [Bool.and_eq_true]
      refine ⟨(isO_iff hK6).mpr fun k hk => ?_, ?_⟩
      · rw [e1 k hk, usB_cong (fun i hi => e1 i (by omega))]
        exact hnew k hk
      · cases mf with
        | false => rfl
        | true => rw [alB_cong e2]; exact hal rfl
    rw [if_pos c1, rnR_cong e2, ← hz]
    exact hU _ _ _ _ _ hok (fun k hk => by rw [hOk k hk, e2 k hk]) hR
  | succ m ih =>
    intro j pre pd b z O a a' hj hdg hnew hlt hb hbu hal hz hok hOk hR
    have hK0 : 0 < K := by omega
    have hpow : K ^ (m + 1) = K * K ^ m := by rw [Nat.pow_succ, Nat.mul_comm]
    have e0 : ∀ d e : Nat, pre * K ^ (m + 1) + (d * K ^ m + e) = (pre * K + d) * K ^ m + e := fun d e => by
      rw [hpow, Nat.add_mul, Nat.mul_assoc]; omega
    rw [hpow, fN_split, gD]
    have eg : fN (fun i a => if mB T mf b i then gD T mf U' m (clr b i) (rnS T i z) (j + 1) (upd O j (nI i)) a else a) (tN T) a' = fN (fun d a => if mB T mf b (memN b0 (tN T) d) then gD T mf U' m (clr b (memN b0 (tN T) d)) (rnS T (memN b0 (tN T) d) z) (j + 1) (upd O j (nI (memN b0 (tN T) d))) a else a) K a' := by
      rw [← hK]
      refine fN_mem (fun i a hi => ?_) (tN T) a'
      have : ¬ mB T mf b i = true := fun q => by
        have q2 := mB_sub q
        have sub : ∀ jj, lfB b0 (fun k => memN b0 (tN T) (pd k)) jj i = true → b0 i = true := by
          intro jj
          induction jj with
          | zero => exact fun h => h
          | succ jj ihj =>
            intro h
            rw [lfB] at h
            simp only [clr, Bool.and_eq_true] at h
            exact ihj h.1
        rw [hb] at q2
        rw [sub j q2] at hi
        exact absurd hi (by decide)
      rw [if_neg this]
    rw [eg]
    have step : ∀ d, d < K → ∀ a a', R a a' → R (fN (fun e a => if okc T mf b0 K (pre * (K * K ^ m) + (d * K ^ m + e)) = true then U (rnR T (odC b0 (tN T) K (pre * (K * K ^ m) + (d * K ^ m + e))) z0 K) (odC b0 (tN T) K (pre * (K * K ^ m) + (d * K ^ m + e))) a else a) (K ^ m) a) (if mB T mf b (memN b0 (tN T) d) then gD T mf U' m (clr b (memN b0 (tN T) d)) (rnS T (memN b0 (tN T) d) z) (j + 1) (upd O j (nI (memN b0 (tN T) d))) a' else a') := by
      intro d hd a a' hR
      have e0' : ∀ e : Nat, pre * (K * K ^ m) + (d * K ^ m + e) = (pre * K + d) * K ^ m + e := fun e => by rw [← hpow]; exact e0 d e
      simp only [e0']
      have hdm : memN b0 (tN T) d < tN T := (memN_lt (by rw [hK]; exact hd)).1
      have hdig : ∀ e, e < K ^ m → ∀ k, k < j + 1 → dgC K ((pre * K + d) * K ^ m + e) k = va_up pd j d k := by
        intro e he k hk
        rcases Nat.lt_or_ge k j with q | q
        · rw [va_up_ne _ _ (by omega), ← e0 d e]
          refine hdg (d * K ^ m + e) ?_ k q
          rw [hpow]
          calc d * K ^ m + e < d * K ^ m + K ^ m := by omega
            _ = (d + 1) * K ^ m := by rw [Nat.add_mul, Nat.one_mul]
            _ ≤ K * K ^ m := Nat.mul_le_mul_right _ hd
        · obtain rfl : k = j := by omega
          rw [va_up_self]
          unfold dgC
          rw [show K - k - 1 = m by omega, Nat.mul_comm, Nat.mul_add_div (Nat.pow_pos hK0), Nat.div_eq_of_lt he, Nat.add_zero, Nat.add_comm, Nat.add_mul_mod_self_right]
          exact Nat.mod_eq_of_lt hd
      have hpde : ∀ k, k < j → va_up pd j d k = pd k := fun k hk => va_up_ne _ _ (by omega)
      by_cases q : mB T mf b (memN b0 (tN T) d) = true
      · rw [if_pos q]
        have hbm := mB_sub q
        have hus : usB pd j d = false := by
          have := hbu d hd
          rw [hbm] at this
          simpa using this
        obtain ⟨mm, ll, hz1⟩ := hok
        obtain ⟨mm', ll', -, -, hz2⟩ := okS_step hO hdm hz1
        refine ih (j + 1) (pre * K + d) (va_up pd j d) _ _ _ _ _ (by omega) hdig ?_ ?_ ?_ ?_ ?_ ?_ ⟨mm', ll', hz2⟩ ?_ hR
        · intro k hk
          rcases Nat.lt_or_ge k j with w | w
          · rw [hpde k w, usB_cong (fun i hi => hpde i (by omega))]; exact hnew k w
          · obtain rfl : k = j := by omega
            rw [va_up_self, usB_cong (fun i hi => hpde i hi)]; exact hus
        · intro k hk
          rcases Nat.lt_or_ge k j with w | w
          · rw [hpde k w]; exact hlt k w
          · obtain rfl : k = j := by omega
            rw [va_up_self]; exact hd
        · rw [lfB, va_up_self, lfB_cong (od' := fun k => memN b0 (tN T) (pd k)) (fun k hk => by show memN b0 (tN T) (va_up pd j d k) = _; rw [hpde k hk]), ← hb]
        · intro d' hd'
          show (b (memN b0 (tN T) d') && !decide (memN b0 (tN T) d' = memN b0 (tN T) d)) = !(usB (va_up pd j d) j d' || decide (d' = va_up pd j d j))
          rw [hbu d' hd', va_up_self, usB_cong (fun i hi => hpde i hi)]
          by_cases w : d' = d
          · subst w; simp
          · rw [decide_eq_false w, decide_eq_false (fun x => w (memN_inj (by rw [hK]; exact hd') (by rw [hK]; exact hd) x))]; simp
        · intro hmf
          rw [alB, alB_cong (od' := fun k => memN b0 (tN T) (pd k)) (fun k hk => by show memN b0 (tN T) (va_up pd j d k) = _; rw [hpde k hk]), hal hmf, lfB_cong (od' := fun k => memN b0 (tN T) (pd k)) (fun k hk => by show memN b0 (tN T) (va_up pd j d k) = _; rw [hpde k hk]), ← hb, va_up_self]
          subst hmf
          exact q
        · rw [rnR, va_up_self, rnR_cong (od' := fun k => memN b0 (tN T) (pd k)) (fun k hk => by show memN b0 (tN T) (va_up pd j d k) = _; rw [hpde k hk]), ← hz]
        · intro k hk
          rcases Nat.lt_or_ge k j with w | w
          · rw [pk_un (by omega), hOk k w, hpde k w]
          · obtain rfl : k = j := by omega
            rw [pk_us, va_up_self]
      · rw [if_neg q]
        have hid : fN (fun e a => if okc T mf b0 K ((pre * K + d) * K ^ m + e) = true then U (rnR T (odC b0 (tN T) K ((pre * K + d) * K ^ m + e)) z0 K) (odC b0 (tN T) K ((pre * K + d) * K ^ m + e)) a else a) (K ^ m) a = a := by
          refine fN_id fun e he => if_neg fun hok2 => ?_
          unfold okc at hok2
          rw [Bool.and_eq_true] at hok2
          have hnew2 := (isO_iff hK6).mp hok2.1 j (by omega)
          have hg := hdig e he
          rw [hg j (by omega), va_up_self, usB_cong (fun i hi => (hg i (by omega)).trans (hpde i hi))] at hnew2
          have hbm : b (memN b0 (tN T) d) = true := by rw [hbu d hd, hnew2]; rfl
          cases mf with
          | false => exact q hbm
          | true =>
            have ha : alB T b0 (odC b0 (tN T) K ((pre * K + d) * K ^ m + e)) (j + 1) = true := alB_le (by omega) hok2.2
            rw [alB, Bool.and_eq_true] at ha
            have ho : ∀ k, k < j → odC b0 (tN T) K ((pre * K + d) * K ^ m + e) k = memN b0 (tN T) (pd k) := fun k hk => by
              show memN b0 (tN T) (dgC K ((pre * K + d) * K ^ m + e) k) = _
              rw [hg k (by omega), hpde k hk]
            have hoj : odC b0 (tN T) K ((pre * K + d) * K ^ m + e) j = memN b0 (tN T) d := by
              show memN b0 (tN T) (dgC K ((pre * K + d) * K ^ m + e) j) = _
              rw [hg j (by omega), va_up_self]
            rw [lfB_cong ho, hoj, ← hb] at ha
            exact q ha.2
        rw [hid]
        exact hR
    have fold : ∀ n, n ≤ K → ∀ a a', R a a' → R (fN (fun d a => fN (fun e a => if okc T mf b0 K (pre * (K * K ^ m) + (d * K ^ m + e)) = true then U (rnR T (odC b0 (tN T) K (pre * (K * K ^ m) + (d * K ^ m + e))) z0 K) (odC b0 (tN T) K (pre * (K * K ^ m) + (d * K ^ m + e))) a else a) (K ^ m) a) n a) (fN (fun d a => if mB T mf b (memN b0 (tN T) d) then gD T mf U' m (clr b (memN b0 (tN T) d)) (rnS T (memN b0 (tN T) d) z) (j + 1) (upd O j (nI (memN b0 (tN T) d))) a else a) n a') := by
      intro n
      induction n with
      | zero => exact fun _ _ _ h => h
      | succ n ihn => exact fun hn a a' h => step n (by omega) _ _ (ihn (by omega) a a' h)
    exact fold K (Nat.le_refl K) a a' hR
