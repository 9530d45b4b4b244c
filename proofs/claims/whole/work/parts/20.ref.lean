/-! the reference: what its small methods answer -/
def rowsOf (r : Nat → Int32) (T : gTown) : Prop := ∀ h, h < tN T → r (8 * h) = nI (tK T h) ∧ r (8 * h + 1) = tP T h ∧ r (8 * h + 2) = tL T h ∧ r (8 * h + 3) = tE T h
def okT (T : gTown) : Prop := tN T ≤ 6 ∧ ∀ h, h < tN T → tK T h < 5 ∧ (∃ q, q ≤ 9 ∧ tP T h = nI q) ∧ (∃ q, 1 ≤ q ∧ q ≤ 9 ∧ tL T h = nI q) ∧ ∃ q, 1 ≤ q ∧ q ≤ 9 ∧ tE T h = nI q
/-- a place of the key -/
def okP (x : Int32) : Prop := ∃ q, q ≤ 9 ∧ x = nI q
def inL (v lo hi : Int64) : Bool := !decide (v < lo) && !decide (hi < v)
theorem lgc_lt {x y : Int64} : lg_cmp x y < 0 ↔ x < y := by
  unfold lg_cmp
  by_cases h : y < x
  · rw [if_pos h]; exact ⟨fun z => absurd z (by decide), fun z => absurd h (Int64.not_lt.mpr (Int64.le_of_lt z))⟩
  · rw [if_neg h]
    by_cases h2 : x = y
    · rw [if_pos h2]; exact ⟨fun z => absurd z (by decide), fun z => by rw [h2] at z h; exact absurd z h⟩
    · rw [if_neg h2]; exact ⟨fun _ => Int64.lt_of_le_of_ne (Int64.not_lt.mp h) h2, fun _ => by decide⟩
theorem lgc_gt {x y : Int64} : 0 < lg_cmp x y ↔ y < x := by
  unfold lg_cmp
  by_cases h : y < x
  · rw [if_pos h]; exact ⟨fun _ => h, fun _ => by decide⟩
  · rw [if_neg h]
    by_cases h2 : x = y
    · rw [if_pos h2]; exact ⟨fun z => absurd z (by decide), fun z => absurd z h⟩
    · rw [if_neg h2]; exact ⟨fun z => absurd z (by decide), fun z => absurd z h⟩
def fr (x y : Int32) : Int32 := if y ≤ x then x - y else y - x
theorem mx_l {m u : Int32} (h : u ≤ m) : mx m u = m := by unfold mx; rw [if_neg (Int32.not_lt.mpr h)]
theorem mx_r {m u : Int32} (h : ¬ u ≤ m) : mx m u = u := by unfold mx; rw [if_pos (Int32.not_le.mp h)]
theorem fr_ab {x y : Int32} (hx : okP x) (hy : okP y) : fr x y = ab (x - y) := by
  obtain ⟨p, hp, rfl⟩ := hx
  obtain ⟨q, hq, rfl⟩ := hy
  have key : ∀ a : Fin 10, ∀ b : Fin 10, fr (nI a.val) (nI b.val) = ab (nI a.val - nI b.val) := by decide +kernel
  exact key ⟨p, by omega⟩ ⟨q, by omega⟩
theorem lt_neg {x n : Int32} (h : ¬ 0 ≤ x) : nI 0 = mx (nI 0) x * n := by
  have e : ¬ nI 0 < x := fun z => h (Int32.le_of_lt z)
  unfold mx
  rw [if_neg e]
  show (0 : Int32) = 0 * n
  rw [Int32.zero_mul]
theorem lt_pos {x n : Int32} (h : 0 ≤ x) : x * n = mx (nI 0) x * n := by
  unfold mx
  by_cases e : nI 0 < x
  · rw [if_pos e]
  · have e2 : x = 0 := Int32.le_antisymm (Int32.not_lt.mp e) h
    subst e2; rfl
theorem opn_1 {k : Nat} (h3 : k ≠ 3) (h4 : k ≠ 4) : opn k = nI 1 := by
  unfold opn
  split
  · exact absurd rfl h3
  · exact absurd rfl h4
  · rfl
theorem kpu_0 {k : Nat} {m : Int32} (h4 : k ≠ 4) : kpu k m = nI 0 := by
  unfold kpu
  split
  · exact absurd rfl h4
  · rfl
theorem ltA_n {k : Nat} {l n m : Int32} (h : k ≠ 2) : ltA k l n m = mx (nI 0) (m - nI 4 * l) * n := by
  unfold ltA
  split
  · exact absurd rfl h
  · rfl
theorem or_0 (x : Int32) : x ||| nI 0 = x := by show x ||| (0 : Int32) = x; exact Int32.or_zero
/-- the midwives among a set, as bits, of the first i -/
def mwM (T : gTown) (w : Int32) : Nat → Int32
  | 0 => nI 0
  | i + 1 => if (w >>> (nI i &&& 31)) &&& nI 1 = nI 1 ∧ tK T i = 1 then mwM T w i ||| (nI 1 <<< (nI i &&& 31)) else mwM T w i
def myM (T : gTown) (w : Int32) : Int32 := if mwM T w (tN T) = 0 then w else mwM T w (tN T)
/-- since when, by the reference's rows -/
def sF (r : Nat → Int32) : Nat → Int32 := fun h => r (8 * h + 4)
/-- next, by the reference: which, and its value -/
def nxR (may : Int32) (rk : Nat → Int32) : Nat → Int32 × Int32
  | 0 => ((-1), nI 0)
  | i + 1 => if (may >>> (nI i &&& 31)) &&& nI 1 = nI 1 then (if (nxR may rk i).1 = (-1) ∨ rk i < (nxR may rk i).2 then (nI i, rk i) else nxR may rk i) else nxR may rk i
def inI (x lo hi : Int32) : Bool := !decide (x < lo) && !decide (hi < x)
theorem inL_I {x lo hi : Int32} {l h : Int64} (hl : lo.toInt64 = l) (hh : hi.toInt64 = h) : inL x.toInt64 l h = inI x lo hi := by
  subst hl hh
  have e : ∀ a b : Int32, (a.toInt64 < b.toInt64) ↔ a < b := fun a b => by rw [Int64.lt_iff_toInt_lt, Int32.lt_iff_toInt_lt, Int32.toInt_toInt64, Int32.toInt_toInt64]
  unfold inL inI
  simp only [e]
theorem inI_hs {n : Nat} (hn : n ≤ 6) (x : Int32) : inI x (nI 0) (nI n - nI 1) = hsB n x := by
  have e : ∀ k : Nat, k ≤ 6 → ((nI k - nI 1 < x) ↔ nI k ≤ x) := by
    intro k hk
    rw [Int32.lt_iff_toInt_lt, Int32.le_iff_toInt_le]
    have e1 : (nI k - nI 1).toInt = (k : Int) - 1 := by
      rcases (show k = 0 ∨ k = 1 ∨ k = 2 ∨ k = 3 ∨ k = 4 ∨ k = 5 ∨ k = 6 by omega) with rfl | rfl | rfl | rfl | rfl | rfl | rfl <;> decide
    rw [e1, nI_toInt (by omega)]
    omega
  unfold inI hsB
  simp only [e n hn]
  rfl
def kbF (c : Int32) : Int32 := if c = nI 104 then nI 0 else if c = nI 109 then nI 1 else if c = nI 105 then nI 2 else if c = nI 119 then nI 3 else if c = nI 108 then nI 4 else (-1)
/-- whether a letter fits at a place of the page -/
def gdF (k : Nat) (c : Int32) : Bool := match k % 5 with
  | 0 => !decide (kbF c = (-1))
  | 4 => decide (c = nI 44) && decide (k < 29)
  | 1 => inI (c - nI 48) (nI 0) (nI 9)
  | _ => inI (c - nI 48) (nI 1) (nI 9)
/-- the first place, from k on, that doesn't fit; m places are looked at at the most -/
def ftF (g : Nat → Int32) (n : Nat) : Nat → Nat → Nat
  | 0, k => k
  | m + 1, k => if k < n ∧ gdF k (g k) = true then ftF g n m (k + 1) else k
theorem nxR_in (may : Int32) (rk : Nat → Int32) : ∀ i, (nxR may rk i).1 = (-1) ∨ ∃ h, h < i ∧ (nxR may rk i).1 = nI h
  | 0 => Or.inl rfl
  | i + 1 => by
    have ih := nxR_in may rk i
    have ih2 : (nxR may rk i).1 = (-1) ∨ ∃ h, h < i + 1 ∧ (nxR may rk i).1 = nI h := by
      rcases ih with h | ⟨h, h1, h2⟩
      · exact Or.inl h
      · exact Or.inr ⟨h, by omega, h2⟩
    unfold nxR
    by_cases q : (may >>> (nI i &&& 31)) &&& nI 1 = nI 1
    · rw [if_pos q]
      by_cases q2 : (nxR may rk i).1 = (-1) ∨ rk i < (nxR may rk i).2
      · rw [if_pos q2]; exact Or.inr ⟨i, by omega, rfl⟩
      · rw [if_neg q2]; exact ih2
    · rw [if_neg q]; exact ih2
theorem nI_m1 {n : Nat} (h : n < 2 ^ 31) : ¬ nI n = (-1) := by
  intro z
  have e := nI_toInt h
  rw [z] at e
  have e2 : ((-1 : Int32)).toInt = -1 := by decide
  omega
theorem nxR_ne (may : Int32) (rk : Nat → Int32) {i : Nat} (h : i < 2 ^ 31) : ¬ (nxR may rk i).1 = nI i := by
  rcases nxR_in may rk i with e | ⟨j, h1, e⟩
  · rw [e]; exact fun z => nI_m1 h z.symm
  · rw [e]; exact fun z => absurd ((nI_eq (by omega) h).mp z) (by omega)
set_option maxHeartbeats 4000000 in
set_option maxRecDepth 100000 in
theorem c_X11_in (l : Launch) (E : gEnv) (ws : va_W) (x lo hi : Int64) : Cn l E yX11_in wsX11_in (rmL 0 0 0) [.long x, .long lo, .long hi] (ws) 0 0 (fun v w => v = some (.int (bI (inL x lo hi))) ∧ w = ws) := by
  refine Cn.of (own := RX11) (cc := cX11_in) (maxL := 6) (ret := (some .boolean)) (lv := [(0, .long x), (2, .long lo), (4, .long hi)]) (by decide) rfl rfl (Nat.le_of_ble_eq_true rfl) rfl ?_
  intro p_ e_ s_ m_ args_ below_ meth_ c_ A_ P_ hp_ F hr_ hnm_
  refine q_lload_n F 0 dX11_in_0 rfl ?_
  refine q_lload_n F 1 dX11_in_1 rfl ?_
  refine q_lcmp F dX11_in_2 ?_
  refine q_if_lt F (tgt := 17) dX11_in_3 (by decide) (fun h_3 => ?_) (fun h_3 => ?_)
  · skip
    have hz_3 := Int32.not_le.mpr h_3
    refine q_iconst F dX11_in_17 (v := nI 0) (by decide) ?_
    refine q_zret F hr_ (by decide) dX11_in_18 (hp_ _ _ ⟨congrArg (fun z => some (Value.int z)) ?_, ?_⟩)
    · (try simp only [lgc_lt, lgc_gt] at *); simp [inL, bI, *]
    · rfl
  · skip
    have hz_3 := Int32.not_lt.mp h_3
    refine q_lload_n F 0 dX11_in_6 rfl ?_
    refine q_lload F 2 dX11_in_7 rfl ?_
    refine q_lcmp F dX11_in_9 ?_
    refine q_if_gt F (tgt := 17) dX11_in_10 (by decide) (fun h_10 => ?_) (fun h_10 => ?_)
    · skip
      have hz_10 := Int32.not_le.mpr h_10
      refine q_iconst F dX11_in_17 (v := nI 0) (by decide) ?_
      refine q_zret F hr_ (by decide) dX11_in_18 (hp_ _ _ ⟨congrArg (fun z => some (Value.int z)) ?_, ?_⟩)
      · (try simp only [lgc_lt, lgc_gt] at *); simp [inL, bI, *]
      · rfl
    · skip
      have hz_10 := Int32.not_lt.mp h_10
      refine q_iconst F dX11_in_13 (v := nI 1) (by decide) ?_
      refine q_goto F (tgt := 18) dX11_in_14 (by decide) ?_
      refine q_zret F hr_ (by decide) dX11_in_18 (hp_ _ _ ⟨congrArg (fun z => some (Value.int z)) ?_, ?_⟩)
      · (try simp only [lgc_lt, lgc_gt] at *); simp [inL, bI, *]
      · rfl

set_option maxHeartbeats 4000000 in
set_option maxRecDepth 100000 in
theorem c_X11_kindBy (l : Launch) (E : gEnv) (ws : va_W) (x : Int32) : Cn l E yX11_kindBy wsX11_kindBy (rmL 0 0 0) [.int x] (ws) 0 0 (fun v w => v = some (.int (kbF x)) ∧ w = ws) := by
  refine Cn.of (own := RX11) (cc := cX11_kindBy) (maxL := 1) (ret := (some .int)) (lv := [(0, .int x)]) (by decide) rfl rfl (Nat.le_of_ble_eq_true rfl) rfl ?_
  intro p_ e_ s_ m_ args_ below_ meth_ c_ A_ P_ hp_ F hr_ hnm_
  refine q_iload_n F 0 dX11_kindBy_0 rfl ?_
  refine q_bipush F dX11_kindBy_1 (v := nI 104) (by decide) ?_
  refine q_icmp_ne F (tgt := 10) dX11_kindBy_3 (by decide) (fun h_3 => ?_) (fun h_3 => ?_)
  · skip
    refine q_iload_n F 0 dX11_kindBy_10 rfl ?_
    refine q_bipush F dX11_kindBy_11 (v := nI 109) (by decide) ?_
    refine q_icmp_ne F (tgt := 20) dX11_kindBy_13 (by decide) (fun h_13 => ?_) (fun h_13 => ?_)
    · skip
      refine q_iload_n F 0 dX11_kindBy_20 rfl ?_
      refine q_bipush F dX11_kindBy_21 (v := nI 105) (by decide) ?_
      refine q_icmp_ne F (tgt := 30) dX11_kindBy_23 (by decide) (fun h_23 => ?_) (fun h_23 => ?_)
      · skip
        refine q_iload_n F 0 dX11_kindBy_30 rfl ?_
        refine q_bipush F dX11_kindBy_31 (v := nI 119) (by decide) ?_
        refine q_icmp_ne F (tgt := 40) dX11_kindBy_33 (by decide) (fun h_33 => ?_) (fun h_33 => ?_)
        · skip
          refine q_iload_n F 0 dX11_kindBy_40 rfl ?_
          refine q_bipush F dX11_kindBy_41 (v := nI 108) (by decide) ?_
          refine q_icmp_ne F (tgt := 50) dX11_kindBy_43 (by decide) (fun h_43 => ?_) (fun h_43 => ?_)
          · skip
            refine q_iconst F dX11_kindBy_50 (v := (-1)) (by decide) ?_
            refine q_iret F hr_ dX11_kindBy_51 (hp_ _ _ ⟨congrArg (fun z => some (Value.int z)) ?_, ?_⟩)
            · rw [kbF, if_neg h_3, if_neg h_13, if_neg h_23, if_neg h_33, if_neg h_43]
            · rfl
          · skip
            refine q_iconst F dX11_kindBy_46 (v := nI 4) (by decide) ?_
            refine q_goto F (tgt := 51) dX11_kindBy_47 (by decide) ?_
            refine q_iret F hr_ dX11_kindBy_51 (hp_ _ _ ⟨congrArg (fun z => some (Value.int z)) ?_, ?_⟩)
            · rw [kbF, if_neg h_3, if_neg h_13, if_neg h_23, if_neg h_33, if_pos h_43]
            · rfl
        · skip
          refine q_iconst F dX11_kindBy_36 (v := nI 3) (by decide) ?_
          refine q_goto F (tgt := 51) dX11_kindBy_37 (by decide) ?_
          refine q_iret F hr_ dX11_kindBy_51 (hp_ _ _ ⟨congrArg (fun z => some (Value.int z)) ?_, ?_⟩)
          · rw [kbF, if_neg h_3, if_neg h_13, if_neg h_23, if_pos h_33]
          · rfl
      · skip
        refine q_iconst F dX11_kindBy_26 (v := nI 2) (by decide) ?_
        refine q_goto F (tgt := 51) dX11_kindBy_27 (by decide) ?_
        refine q_iret F hr_ dX11_kindBy_51 (hp_ _ _ ⟨congrArg (fun z => some (Value.int z)) ?_, ?_⟩)
        · rw [kbF, if_neg h_3, if_neg h_13, if_pos h_23]
        · rfl
    · skip
      refine q_iconst F dX11_kindBy_16 (v := nI 1) (by decide) ?_
      refine q_goto F (tgt := 51) dX11_kindBy_17 (by decide) ?_
      refine q_iret F hr_ dX11_kindBy_51 (hp_ _ _ ⟨congrArg (fun z => some (Value.int z)) ?_, ?_⟩)
      · rw [kbF, if_neg h_3, if_pos h_13]
      · rfl
  · skip
    refine q_iconst F dX11_kindBy_6 (v := nI 0) (by decide) ?_
    refine q_goto F (tgt := 51) dX11_kindBy_7 (by decide) ?_
    refine q_iret F hr_ dX11_kindBy_51 (hp_ _ _ ⟨congrArg (fun z => some (Value.int z)) ?_, ?_⟩)
    · rw [kbF, if_pos h_3]
    · rfl

set_option maxHeartbeats 4000000 in
set_option maxRecDepth 100000 in
theorem c_X11_far (l : Launch) (E : gEnv) (ws : va_W) (x y : Int32) : Cn l E yX11_far wsX11_far (rmL 0 0 0) [.int x, .int y] (ws) 0 0 (fun v w => v = some (.int (fr x y)) ∧ w = ws) := by
  refine Cn.of (own := RX11) (cc := cX11_far) (maxL := 2) (ret := (some .int)) (lv := [(0, .int x), (1, .int y)]) (by decide) rfl rfl (Nat.le_of_ble_eq_true rfl) rfl ?_
  intro p_ e_ s_ m_ args_ below_ meth_ c_ A_ P_ hp_ F hr_ hnm_
  refine q_iload_n F 0 dX11_far_0 rfl ?_
  refine q_iload_n F 1 dX11_far_1 rfl ?_
  refine q_icmp_ge F (tgt := 11) dX11_far_2 (by decide) (fun h_2 => ?_) (fun h_2 => ?_)
  · skip
    have hz_2 := Int32.not_lt.mpr h_2
    refine q_iload_n F 0 dX11_far_11 rfl ?_
    refine q_iload_n F 1 dX11_far_12 rfl ?_
    refine q_isub F dX11_far_13 ?_
    refine q_iret F hr_ dX11_far_14 (hp_ _ _ ⟨congrArg (fun z => some (Value.int z)) ?_, ?_⟩)
    · simp [fr, *]
    · rfl
  · skip
    have hz_2 := Int32.not_le.mp h_2
    refine q_iload_n F 1 dX11_far_5 rfl ?_
    refine q_iload_n F 0 dX11_far_6 rfl ?_
    refine q_isub F dX11_far_7 ?_
    refine q_goto F (tgt := 14) dX11_far_8 (by decide) ?_
    refine q_iret F hr_ dX11_far_14 (hp_ _ _ ⟨congrArg (fun z => some (Value.int z)) ?_, ?_⟩)
    · simp [fr, *]
    · rfl

set_option maxHeartbeats 4000000 in
set_option maxRecDepth 100000 in
theorem c_X11_isGood (l : Launch) (E : gEnv) (ws : va_W) (k : Nat) (x : Int32) (hk : k < 30) : Cn l E yX11_isGood wsX11_isGood (rmL 1 0 0) [.int (nI k), .int x] (ws) 0 0 (fun v w => v = some (.int (bI (gdF k x))) ∧ w = ws) := by
  refine Cn.of (own := RX11) (cc := cX11_isGood) (maxL := 4) (ret := (some .boolean)) (lv := [(0, .int (nI k)), (1, .int x)]) (by decide) rfl rfl (Nat.le_of_ble_eq_true rfl) rfl ?_
  intro p_ e_ s_ m_ args_ below_ meth_ c_ A_ P_ hp_ F hr_ hnm_
  have hk57 : Cond.constantLong RX11 57 (9) ∈ wsX11_isGood := by decide +kernel
  have hd_X11_in : yX11_in.cls ≠ "java/lang/invoke/MethodHandle" ∧ yX11_in.cls ≠ "java/lang/invoke/VarHandle" ∧ (parseMethodDescriptor yX11_in.desc).map (fun d => d.parameters.length) = some 3 := by decide +kernel
  have hd_X11_kindBy : yX11_kindBy.cls ≠ "java/lang/invoke/MethodHandle" ∧ yX11_kindBy.cls ≠ "java/lang/invoke/VarHandle" ∧ (parseMethodDescriptor yX11_kindBy.desc).map (fun d => d.parameters.length) = some 1 := by decide +kernel
  refine q_iload_n F 0 dX11_isGood_0 rfl ?_
  refine q_iconst F dX11_isGood_1 (v := nI 5) (by decide) ?_
  refine q_irem F dX11_isGood_2 (nI_ne0 (by omega) (by omega)) ?_
  refine q_toi (nI (k % 5)) (pk_rem (by omega) (by omega) (by omega)) ?_
  refine q_istore_n F (lv' := [(2, .int (nI (k % 5))), (0, .int (nI k)), (1, .int x)]) dX11_isGood_3 (by decide) rfl ?_
  refine q_iload_n F 2 dX11_isGood_4 rfl ?_
  refine q_bipush F dX11_isGood_5 (v := nI 48) (by decide) ?_
  refine q_isub F dX11_isGood_7 ?_
  refine q_istore_n F (lv' := [(3, .int (x - (nI 48))), (2, .int (nI (k % 5))), (0, .int (nI k)), (1, .int x)]) dX11_isGood_8 (by decide) rfl ?_
  refine q_iload_n F 1 dX11_isGood_9 rfl ?_
  refine q_if_ne F (tgt := 29) dX11_isGood_10 (by decide) (fun h_10 => ?_) (fun h_10 => ?_)
  · skip
    have hn_10 : (k % 5) ≠ 0 := nf_ne_t0 (by omega) h_10
    refine q_iload_n F 1 dX11_isGood_29 rfl ?_
    refine q_iconst F dX11_isGood_30 (v := nI 4) (by decide) ?_
    refine q_icmp_ne F (tgt := 54) dX11_isGood_31 (by decide) (fun h_31 => ?_) (fun h_31 => ?_)
    · skip
      have hn_31 : (k % 5) ≠ 4 := nf_ne_t (by omega) (by omega) h_31
      refine q_iload_n F 0 dX11_isGood_54 rfl ?_
      refine q_i2l F dX11_isGood_55 ?_
      refine q_iload_n F 1 dX11_isGood_56 rfl ?_
      refine q_iconst F dX11_isGood_57 (v := nI 1) (by decide) ?_
      refine q_icmp_ne F (tgt := 65) dX11_isGood_58 (by decide) (fun h_58 => ?_) (fun h_58 => ?_)
      · skip
        have hn_58 : (k % 5) ≠ 1 := nf_ne_t (by omega) (by omega) h_58
        refine q_lconst F dX11_isGood_65 (v := 1) (by decide) ?_
        refine q_ldc2 F hk57 dX11_isGood_66 ?_
        refine q_callS F (As := [.long ((x - (nI 48)).toInt64), .long (1 : Int64), .long (9 : Int64)]) (rest := []) (c_X11_in l E ws ((x - (nI 48)).toInt64) (1 : Int64) (9 : Int64)) (List.Perm.refl _) gX11_isGood_X11_in rfl rfl rfl hd_X11_in ⟨by decide, by decide⟩ rfl (Nat.le_of_ble_eq_true rfl) dX11_isGood_69 ⟨by decide, by decide⟩ (fun v_ w_ hvw => ?_)
        rw [hvw.1, hvw.2]
        clear hvw
        refine q_at (pc' := 72) (st' := [.int (bI (inL ((x - (nI 48)).toInt64) (1 : Int64) (9 : Int64)))]) (ws' := ws) (k' := 0) (n' := 0) rfl rfl rfl rfl rfl ?_
        refine q_toi (bI (inI (x - (nI 48)) (nI 1) (nI 9))) (congrArg bI (inL_I (by decide) (by decide))) ?_
        refine q_zret F hr_ (bI_nar _) dX11_isGood_72 (hp_ _ _ ⟨congrArg (fun z => some (Value.int z)) ?_, ?_⟩)
        · (have e5 : k % 5 = 0 ∨ k % 5 = 1 ∨ k % 5 = 2 ∨ k % 5 = 3 ∨ k % 5 = 4 := by omega); (rcases e5 with e5 | e5 | e5 | e5 | e5 <;> (first | omega | (simp only [gdF, e5] <;> simp_all [bI] <;> (intros; omega))))
        · rfl
      · skip
        have hn_58 : (k % 5) = 1 := nf_ne_f (by omega) (by omega) h_58
        refine q_lconst F dX11_isGood_61 (v := 0) (by decide) ?_
        refine q_goto F (tgt := 66) dX11_isGood_62 (by decide) ?_
        refine q_ldc2 F hk57 dX11_isGood_66 ?_
        refine q_callS F (As := [.long ((x - (nI 48)).toInt64), .long (0 : Int64), .long (9 : Int64)]) (rest := []) (c_X11_in l E ws ((x - (nI 48)).toInt64) (0 : Int64) (9 : Int64)) (List.Perm.refl _) gX11_isGood_X11_in rfl rfl rfl hd_X11_in ⟨by decide, by decide⟩ rfl (Nat.le_of_ble_eq_true rfl) dX11_isGood_69 ⟨by decide, by decide⟩ (fun v_ w_ hvw => ?_)
        rw [hvw.1, hvw.2]
        clear hvw
        refine q_at (pc' := 72) (st' := [.int (bI (inL ((x - (nI 48)).toInt64) (0 : Int64) (9 : Int64)))]) (ws' := ws) (k' := 0) (n' := 0) rfl rfl rfl rfl rfl ?_
        refine q_toi (bI (inI (x - (nI 48)) (nI 0) (nI 9))) (congrArg bI (inL_I (by decide) (by decide))) ?_
        refine q_zret F hr_ (bI_nar _) dX11_isGood_72 (hp_ _ _ ⟨congrArg (fun z => some (Value.int z)) ?_, ?_⟩)
        · (have e5 : k % 5 = 0 ∨ k % 5 = 1 ∨ k % 5 = 2 ∨ k % 5 = 3 ∨ k % 5 = 4 := by omega); (rcases e5 with e5 | e5 | e5 | e5 | e5 <;> (first | omega | (simp only [gdF, e5] <;> simp_all [bI] <;> (intros; omega))))
        · rfl
    · skip
      have hn_31 : (k % 5) = 4 := nf_ne_f (by omega) (by omega) h_31
      refine q_iload_n F 3 dX11_isGood_34 rfl ?_
      refine q_bipush F dX11_isGood_35 (v := nI 44) (by decide) ?_
      refine q_icmp_ne F (tgt := 50) dX11_isGood_37 (by decide) (fun h_37 => ?_) (fun h_37 => ?_)
      · skip
        refine q_iconst F dX11_isGood_50 (v := nI 0) (by decide) ?_
        refine q_goto F (tgt := 72) dX11_isGood_51 (by decide) ?_
        refine q_zret F hr_ (by decide) dX11_isGood_72 (hp_ _ _ ⟨congrArg (fun z => some (Value.int z)) ?_, ?_⟩)
        · (have e5 : k % 5 = 0 ∨ k % 5 = 1 ∨ k % 5 = 2 ∨ k % 5 = 3 ∨ k % 5 = 4 := by omega); (rcases e5 with e5 | e5 | e5 | e5 | e5 <;> (first | omega | (simp only [gdF, e5] <;> simp_all [bI] <;> (intros; omega))))
        · rfl
      · skip
        refine q_iload_n F 2 dX11_isGood_40 rfl ?_
        refine q_bipush F dX11_isGood_41 (v := nI 29) (by decide) ?_
        refine q_icmp_ge F (tgt := 50) dX11_isGood_43 (by decide) (fun h_43 => ?_) (fun h_43 => ?_)
        · skip
          have hn_43 : k ≥ 29 := nf_ge_t (by omega) (by omega) h_43
          refine q_iconst F dX11_isGood_50 (v := nI 0) (by decide) ?_
          refine q_goto F (tgt := 72) dX11_isGood_51 (by decide) ?_
          refine q_zret F hr_ (by decide) dX11_isGood_72 (hp_ _ _ ⟨congrArg (fun z => some (Value.int z)) ?_, ?_⟩)
          · (have e5 : k % 5 = 0 ∨ k % 5 = 1 ∨ k % 5 = 2 ∨ k % 5 = 3 ∨ k % 5 = 4 := by omega); (rcases e5 with e5 | e5 | e5 | e5 | e5 <;> (first | omega | (simp only [gdF, e5] <;> simp_all [bI] <;> (intros; omega))))
          · rfl
        · skip
          have hn_43 : k < 29 := nf_ge_f (by omega) (by omega) h_43
          refine q_iconst F dX11_isGood_46 (v := nI 1) (by decide) ?_
          refine q_goto F (tgt := 72) dX11_isGood_47 (by decide) ?_
          refine q_zret F hr_ (by decide) dX11_isGood_72 (hp_ _ _ ⟨congrArg (fun z => some (Value.int z)) ?_, ?_⟩)
          · (have e5 : k % 5 = 0 ∨ k % 5 = 1 ∨ k % 5 = 2 ∨ k % 5 = 3 ∨ k % 5 = 4 := by omega); (rcases e5 with e5 | e5 | e5 | e5 | e5 <;> (first | omega | (simp only [gdF, e5] <;> simp_all [bI] <;> (intros; omega))))
          · rfl
  · skip
    have hn_10 : (k % 5) = 0 := nf_ne_f0 (by omega) h_10
    refine q_iload_n F 3 dX11_isGood_13 rfl ?_
    refine q_callS F (As := [.int x]) (rest := []) (c_X11_kindBy l E ws x) (List.Perm.refl _) gX11_isGood_X11_kindBy rfl rfl rfl hd_X11_kindBy ⟨by decide, by decide⟩ rfl (Nat.le_of_ble_eq_true rfl) dX11_isGood_14 ⟨by decide, by decide⟩ (fun v_ w_ hvw => ?_)
    rw [hvw.1, hvw.2]
    clear hvw
    refine q_at (pc' := 17) (st' := [.int (kbF x)]) (ws' := ws) (k' := 0) (n' := 0) rfl rfl rfl rfl rfl ?_
    refine q_iconst F dX11_isGood_17 (v := (-1)) (by decide) ?_
    refine q_icmp_eq F (tgt := 25) dX11_isGood_18 (by decide) (fun h_18 => ?_) (fun h_18 => ?_)
    · skip
      refine q_iconst F dX11_isGood_25 (v := nI 0) (by decide) ?_
      refine q_goto F (tgt := 72) dX11_isGood_26 (by decide) ?_
      refine q_zret F hr_ (by decide) dX11_isGood_72 (hp_ _ _ ⟨congrArg (fun z => some (Value.int z)) ?_, ?_⟩)
      · (have e5 : k % 5 = 0 ∨ k % 5 = 1 ∨ k % 5 = 2 ∨ k % 5 = 3 ∨ k % 5 = 4 := by omega); (rcases e5 with e5 | e5 | e5 | e5 | e5 <;> (first | omega | (simp only [gdF, e5] <;> simp_all [bI] <;> (intros; omega))))
      · rfl
    · skip
      refine q_iconst F dX11_isGood_21 (v := nI 1) (by decide) ?_
      refine q_goto F (tgt := 72) dX11_isGood_22 (by decide) ?_
      refine q_zret F hr_ (by decide) dX11_isGood_72 (hp_ _ _ ⟨congrArg (fun z => some (Value.int z)) ?_, ?_⟩)
      · (have e5 : k % 5 = 0 ∨ k % 5 = 1 ∨ k % 5 = 2 ∨ k % 5 = 3 ∨ k % 5 = 4 := by omega); (rcases e5 with e5 | e5 | e5 | e5 | e5 <;> (first | omega | (simp only [gdF, e5] <;> simp_all [bI] <;> (intros; omega))))
      · rfl
/-! sets of at most six houses, as bits; the going by a law -/
def clr (b : Nat → Bool) (h : Nat) : Nat → Bool := fun j => b j && !decide (j = h)
def cnt (b : Nat → Bool) : Nat → Nat
  | 0 => 0
  | i + 1 => cnt b i + (if b i then 1 else 0)
theorem cnt_cong {b c : Nat → Bool} : ∀ {i : Nat}, (∀ j, j < i → b j = c j) → cnt b i = cnt c i
  | 0, _ => rfl
  | i + 1, h => by rw [cnt, cnt, cnt_cong (fun j hj => h j (Nat.lt_succ_of_lt hj)), h i (Nat.lt_succ_self i)]
theorem b6_eq (b : Nat → Bool) {j : Nat} (hj : j < 6) : b j = b6 (b 0) (b 1) (b 2) (b 3) (b 4) (b 5) j := by
  rcases (show j = 0 ∨ j = 1 ∨ j = 2 ∨ j = 3 ∨ j = 4 ∨ j = 5 by omega) with rfl | rfl | rfl | rfl | rfl | rfl <;> rfl
theorem cnt_6 (b : Nat → Bool) : cnt b 6 = cnt (b6 (b 0) (b 1) (b 2) (b 3) (b 4) (b 5)) 6 := cnt_cong fun j hj => b6_eq b hj
theorem wb_06 : ∀ b0 b1 b2 b3 b4 b5 : Bool, decide (wb (b6 b0 b1 b2 b3 b4 b5) 6 = 0) = decide (cnt (b6 b0 b1 b2 b3 b4 b5) 6 = 0) := by decide +kernel
theorem wb_0 (b : Nat → Bool) : wb b 6 = 0 ↔ cnt b 6 = 0 := by
  rw [wb_6, cnt_6]
  have h := wb_06 (b 0) (b 1) (b 2) (b 3) (b 4) (b 5)
  exact ⟨fun q => of_decide_eq_true (by rw [← h]; exact decide_eq_true q), fun q => of_decide_eq_true (by rw [h]; exact decide_eq_true q)⟩
theorem cnt_pos {b : Nat → Bool} : ∀ {i : Nat}, ¬ cnt b i = 0 → ∃ j, j < i ∧ b j = true
  | 0, h => absurd rfl h
  | i + 1, h => by
    cases q : b i with
    | true => exact ⟨i, Nat.lt_succ_self i, q⟩
    | false =>
      rw [cnt, q] at h
      obtain ⟨j, h1, h2⟩ := cnt_pos (b := b) (i := i) (fun z => h (by simp [z]))
      exact ⟨j, by omega, h2⟩
theorem cnt_zero {b : Nat → Bool} : ∀ {i : Nat}, cnt b i = 0 → ∀ j, j < i → b j = false
  | 0, _, j, hj => absurd hj (Nat.not_lt_zero j)
  | i + 1, h, j, hj => by
    rw [cnt] at h
    rcases Nat.lt_or_ge j i with q | q
    · exact cnt_zero (by omega) j q
    · rw [show j = i by omega]
      cases q2 : b i with
      | false => rfl
      | true => rw [q2] at h; simp at h
theorem cnt_clr {b : Nat → Bool} {h : Nat} (hb : b h = true) : ∀ {i : Nat}, h < i → cnt (clr b h) i + 1 = cnt b i
  | 0, q => absurd q (Nat.not_lt_zero h)
  | i + 1, q => by
    rw [cnt, cnt]
    rcases Nat.lt_or_ge h i with q2 | q2
    · have e : clr b h i = b i := by simp [clr, show ¬ i = h by omega]
      rw [e]
      have := cnt_clr hb q2
      omega
    · have e2 : h = i := by omega
      subst e2
      have e3 : cnt (clr b h) h = cnt b h := cnt_cong fun j hj => by simp [clr, show ¬ j = h by omega]
      rw [e3, hb, show clr b h h = false by simp [clr]]
      simp
theorem cnt_le (b : Nat → Bool) : ∀ i, cnt b i ≤ i
  | 0 => Nat.le_refl 0
  | i + 1 => by rw [cnt]; have := cnt_le b i; split <;> omega
theorem wb_clr6 : ∀ (b0 b1 b2 b3 b4 b5 : Bool) (h : Fin 6), wb (b6 b0 b1 b2 b3 b4 b5) 6 &&& ((nI 1 <<< (nI h.val &&& 31)) ^^^ (-1)) = wb (clr (b6 b0 b1 b2 b3 b4 b5) h.val) 6 := by decide +kernel
theorem wb_clr (b : Nat → Bool) {h : Nat} (hh : h < 6) : wb b 6 &&& ((nI 1 <<< (nI h &&& 31)) ^^^ (-1)) = wb (clr b h) 6 := by
  rw [wb_6 b, wb_clr6 _ _ _ _ _ _ ⟨h, hh⟩]
  exact wb_cong fun j hj => by simp only [clr]; rw [← b6_eq b hj]
theorem wb_bitI (b : Nat → Bool) {h : Nat} (hh : h < 6) : (wb b 6 >>> (nI h &&& 31)) &&& nI 1 = nI 1 ↔ b h = true := by
  have e := wb_bit b hh
  exact ⟨fun q => by rw [← e]; exact decide_eq_true q, fun q => of_decide_eq_true (by rw [e]; exact q)⟩
theorem wb_res (c : Nat → Bool) {n : Nat} : ∀ {m : Nat}, n ≤ m → wb c n = wb (fun j => c j && decide (j < n)) m
  | 0, h => by rw [show n = 0 by omega]; rfl
  | m + 1, h => by
    rcases Nat.lt_or_ge n (m + 1) with q | q
    · rw [wb, ← wb_res c (show n ≤ m by omega)]
      simp [show ¬ m < n by omega]
    · rw [show n = m + 1 by omega]
      exact wb_cong fun j hj => by simp [hj]
def mwS (T : gTown) (b : Nat → Bool) : Nat → Bool := fun j => (b j && decide (tK T j = 1)) && decide (j < tN T)
/-- those of a set that may be opened -/
def mayS (T : gTown) (b : Nat → Bool) : Nat → Bool := if cnt (mwS T b) 6 = 0 then b else mwS T b
theorem mwM_wb (T : gTown) (b : Nat → Bool) : ∀ {i : Nat}, i ≤ 6 → mwM T (wb b 6) i = wb (fun j => b j && decide (tK T j = 1)) i
  | 0, _ => rfl
  | i + 1, h => by
    have e0 : mwM T (wb b 6) (i + 1) = if (wb b 6 >>> (nI i &&& 31)) &&& nI 1 = nI 1 ∧ tK T i = 1 then mwM T (wb b 6) i ||| (nI 1 <<< (nI i &&& 31)) else mwM T (wb b 6) i := rfl
    have e1 : wb (fun j => b j && decide (tK T j = 1)) (i + 1) = if (b i && decide (tK T i = 1)) = true then wb (fun j => b j && decide (tK T j = 1)) i ||| (nI 1 <<< (nI i &&& 31)) else wb (fun j => b j && decide (tK T j = 1)) i := rfl
    rw [e0, e1, mwM_wb T b (show i ≤ 6 by omega)]
    have e := wb_bitI b (show i < 6 by omega)
    by_cases q : b i = true
    · by_cases q2 : tK T i = 1
      · rw [if_pos ⟨e.mpr q, q2⟩, if_pos (by simp [q, q2])]
      · rw [if_neg (fun z => q2 z.2), if_neg (by simp [q2])]
    · rw [if_neg (fun z => q (e.mp z.1)), if_neg (by simp [q])]
theorem myM_wb {T : gTown} (hn : tN T ≤ 6) (b : Nat → Bool) : myM T (wb b 6) = wb (mayS T b) 6 := by
  unfold myM mayS
  have e : mwM T (wb b 6) (tN T) = wb (mwS T b) 6 := by rw [mwM_wb T b hn, wb_res _ hn]; rfl
  rw [e]
  by_cases q : cnt (mwS T b) 6 = 0
  · rw [if_pos q, if_pos ((wb_0 _).mpr q)]
  · rw [if_neg q, if_neg (fun z => q ((wb_0 _).mp z))]
theorem mayS_sub {T : gTown} {b : Nat → Bool} {j : Nat} (h : mayS T b j = true) : b j = true := by
  unfold mayS at h
  by_cases q : cnt (mwS T b) 6 = 0
  · rw [if_pos q] at h; exact h
  · rw [if_neg q] at h
    unfold mwS at h
    simp only [Bool.and_eq_true] at h
    exact h.1.1
theorem mayS_pos {T : gTown} {b : Nat → Bool} (h : ¬ cnt b 6 = 0) : ¬ cnt (mayS T b) 6 = 0 := by
  unfold mayS
  by_cases q : cnt (mwS T b) 6 = 0
  · rw [if_pos q]; exact h
  · rw [if_neg q]; exact q
/-- next, by the reference, among a set -/
def nxS (T : gTown) (lw : Nat) (s : Nat → Int32) (b : Nat → Bool) (p : Int32) : Int32 := (nxR (myM T (wb b 6)) (rkF T lw s p) (tN T)).1
theorem nxR_bit (c : Nat → Bool) (rk : Nat → Int32) : ∀ {i : Nat}, i ≤ 6 → ((nxR (wb c 6) rk i).1 = (-1) ∧ ∀ j, j < i → c j = false) ∨ ∃ h, h < i ∧ (nxR (wb c 6) rk i).1 = nI h ∧ c h = true
  | 0, _ => Or.inl ⟨rfl, fun j hj => absurd hj (Nat.not_lt_zero j)⟩
  | i + 1, hi => by
    have ih := nxR_bit c rk (show i ≤ 6 by omega)
    have e := wb_bitI c (show i < 6 by omega)
    unfold nxR
    by_cases q : c i = true
    · rw [if_pos (e.mpr q)]
      by_cases q2 : (nxR (wb c 6) rk i).1 = (-1) ∨ rk i < (nxR (wb c 6) rk i).2
      · rw [if_pos q2]; exact Or.inr ⟨i, by omega, rfl, q⟩
      · rw [if_neg q2]
        rcases ih with ⟨h1, -⟩ | ⟨h, h1, h2, h3⟩
        · exact absurd (Or.inl h1) q2
        · exact Or.inr ⟨h, by omega, h2, h3⟩
    · rw [if_neg (fun z => q (e.mp z))]
      rcases ih with ⟨h1, h2⟩ | ⟨h, h1, h2, h3⟩
      · refine Or.inl ⟨h1, fun j hj => ?_⟩
        rcases Nat.lt_or_ge j i with z | z
        · exact h2 j z
        · rw [show j = i by omega]; simpa using q
      · exact Or.inr ⟨h, by omega, h2, h3⟩
theorem nxS_in {T : gTown} {lw : Nat} {s : Nat → Int32} {b : Nat → Bool} {p : Int32} (hn : tN T ≤ 6) (hb : ∀ j, b j = true → j < tN T) (h : ¬ wb b 6 = 0) : ∃ j, j < tN T ∧ nxS T lw s b p = nI j ∧ b j = true := by
  unfold nxS
  rw [myM_wb hn]
  rcases nxR_bit (mayS T b) (rkF T lw s p) hn with ⟨-, h2⟩ | ⟨j, h1, h2, h3⟩
  · obtain ⟨j, h3, h4⟩ := cnt_pos (mayS_pos (T := T) (fun z => h ((wb_0 b).mpr z)))
    have h5 := hb j (mayS_sub h4)
    rw [h2 j h5] at h4
    exact absurd h4 (by decide)
  · exact ⟨j, h1, h2, mayS_sub h3⟩
/-- left, place, minute, kept until, late, in by -/
abbrev gGo : Type := (Nat → Bool) × Int32 × Int32 × Int32 × Int32 × (Nat → Int32)
def stpR (T : gTown) (h : Nat) (x : gGo) : gGo := (clr x.1 h, tP T h, brg (tK T h) (tP T h) x.2.1 x.2.2.1 x.2.2.2.1, kpu (tK T h) (brg (tK T h) (tP T h) x.2.1 x.2.2.1 x.2.2.2.1), x.2.2.2.2.1 + ltA (tK T h) (tL T h) (tE T h) (brg (tK T h) (tP T h) x.2.1 x.2.2.1 x.2.2.2.1), upd x.2.2.2.2.2 h (brg (tK T h) (tP T h) x.2.1 x.2.2.1 x.2.2.2.1))
def goR (T : gTown) (lw : Nat) (s : Nat → Int32) : Nat → gGo → gGo
  | 0, x => x
  | m + 1, x => if wb x.1 6 = 0 then x else goR T lw s m (stpR T (nxS T lw s x.1 x.2.1).toNatClampNeg x)
theorem goR_0 {T : gTown} {lw : Nat} {s : Nat → Int32} {m : Nat} {x : gGo} (h : wb x.1 6 = 0) : goR T lw s m x = x := by
  cases m with
  | zero => rfl
  | succ m => rw [goR, if_pos h]
/-- those that are shut out, by the reference's rows -/
def shB (T : gTown) (r : Nat → Int32) : Nat → Bool := fun j => outB (sF r) j && decide (j < tN T)
theorem shB_lt {T : gTown} {r : Nat → Int32} : ∀ j, shB T r j = true → j < tN T := fun j h => by
  unfold shB at h
  simp only [Bool.and_eq_true] at h
  exact of_decide_eq_true h.2
theorem shB_wt {T : gTown} (hn : tN T ≤ 6) (r : Nat → Int32) : wtB (sF r) (tN T) = wb (shB T r) 6 := by rw [wtB_wb, wb_res _ hn]; rfl
/-! what the reference's public methods answer and do: the answer, the fields, the rows -/
abbrev gF : Type := Nat → Int32
abbrev gA : Type := Nat → Nat → Int32
def letM (f : gF) (A : gA) (x : Int32) : Int32 × gF × gA := if inI x (nI 1) (nI 126) then (if f 1 = nI 30 then ((-104), f, A) else (f 1 + nI 1, upd f 1 (f 1 + nI 1), va_up A 0 (upd (A 0) (f 1).toNatClampNeg x))) else ((-102), f, A)
def layM (T : gTown) (f : gF) (x : Int32) : Int32 × gF := if inI x (nI 0) (nI 9) then (if tN T = 0 then ((-103), f) else (f 3, upd (upd f 3 x) 4 (nI 0))) else ((-102), f)
def pasM (T : gTown) (f : gF) (x : Int32) : Int32 × gF := if inI x (nI 1) (nI 30) then (if tN T = 0 ∨ ¬ f 5 + x ≤ nI 999 then ((-103), f) else (f 5 + x, upd f 5 (f 5 + x))) else ((-102), f)
def aboM (T : gTown) (A : gA) (x y : Int32) : Int32 := if hsB (tN T) x then (if inI y (nI 0) (nI 7) then A 7 (8 * x.toNatClampNeg + y.toNatClampNeg) else (-102)) else (-101)
def asM (T : gTown) (x y : Int32) : Int32 := if hsB (tN T) x then (if inI y (nI 0) (nI 4) then (if y = nI 0 ∨ y = nI (tK T x.toNatClampNeg) ∨ (y = nI 3 ∧ tK T x.toNatClampNeg = 4) then x else (-1)) else (-102)) else (-101)
def shuM (T : gTown) (f : gF) (A : gA) (x z : Int32) : Int32 × gA := if hsB (tN T) x then (bI (outB (sF (A 7)) x.toNatClampNeg), va_up A 7 (upd (A 7) (8 * x.toNatClampNeg + 4) (if z = 0 then (-1) else if outB (sF (A 7)) x.toNatClampNeg then A 7 (8 * x.toNatClampNeg + 4) else f 5))) else ((-101), A)
def seeM (T : gTown) (f : gF) (A : gA) (x y z : Int32) : Int32 × gF × gA := if hsB (tN T) x then (if inI y (nI 0) (nI 999) then (if f 20 = nI 6 then ((-104), f, A) else (f 20 + nI 1, upd f 20 (f 20 + nI 1), va_up A 21 (upd (upd (upd (A 21) (3 * (f 20).toNatClampNeg) x) (3 * (f 20).toNatClampNeg + 1) y) (3 * (f 20).toNatClampNeg + 2) (if z = 0 then nI 0 else nI 1)))) else ((-102), f, A)) else ((-101), f, A)
theorem inI_nat {x : Int32} {lo hi : Nat} (hl : lo < 2 ^ 31) (hh : hi < 2 ^ 31) (h : inI x (nI lo) (nI hi) = true) : ∃ j, lo ≤ j ∧ j ≤ hi ∧ x = nI j := by
  unfold inI at h
  simp only [Bool.and_eq_true, Bool.not_eq_true', decide_eq_false_iff_not] at h
  have h1 : ¬ x < 0 := fun z => h.1 (Int32.lt_of_lt_of_le z (nI_pos' hl))
  obtain ⟨j, h3, h4⟩ := nI_of2 (n := hi) (nI_toInt hh) h1 (Int32.not_lt.mp h.2)
  refine ⟨j, ?_, h3, h4⟩
  have h5 := h.1
  rw [h4] at h5
  rcases Nat.lt_or_ge j lo with q | q
  · exact absurd (nI_lt q hl) h5
  · exact q
set_option maxHeartbeats 4000000 in
set_option maxRecDepth 100000 in
theorem c_X11_lacks (l : Launch) (E : gEnv) (a : Nat → Nat) (f : Nat → Int32) (hh : Int64) (A : Nat → Nat → Int32) (tl : va_W) (T : gTown) (hm : f 2 = nI (tN T)) (hn : tN T ≤ 6) : Cn l E yX11_lacks wsX11_lacks (rmL 0 0 0) [.ref (a 32)] (mC E a f hh A ++ tl) 0 0 (fun v w => v = some (.int (bI (decide (tN T = 0)))) ∧ w = mC E a f hh A ++ tl) := by
  refine Cn.of (own := RX11) (cc := cX11_lacks) (maxL := 1) (ret := (some .boolean)) (lv := [(0, .ref (a 32))]) (by decide) rfl rfl (Nat.le_of_ble_eq_true rfl) rfl ?_
  intro p_ e_ s_ m_ args_ below_ meth_ c_ A_ P_ hp_ F hr_ hnm_
  have hf67_11 : Cond.fieldLink RX11 67 "KeyOnStreetModel" (TX11 2).2.1 (TX11 2).2.2.1 ∈ wsX11_lacks := by decide +kernel
  have hi11 : ∀ w ∈ u_ws RX11 TX11 32, w ∈ wsX11_lacks := by decide +kernel
  refine q_aload_n F 0 dX11_lacks_0 rfl ?_
  refine q_get F (ci := 11) (j := 2) (List.mem_append_left _ (List.mem_of_getElem? (i := 0) rfl)) rfl hi11 (by decide) hf67_11 rfl rfl dX11_lacks_1 ?_
  refine q_toi (nI (tN T)) (hm) ?_
  refine q_if_ne F (tgt := 11) dX11_lacks_4 (by decide) (fun h_4 => ?_) (fun h_4 => ?_)
  · skip
    have hn_4 : (tN T) ≠ 0 := nf_ne_t0 (by omega) h_4
    refine q_iconst F dX11_lacks_11 (v := nI 0) (by decide) ?_
    refine q_zret F hr_ (by decide) dX11_lacks_12 (hp_ _ _ ⟨congrArg (fun z => some (Value.int z)) ?_, ?_⟩)
    · simp [bI, *]
    · rfl
  · skip
    have hn_4 : (tN T) = 0 := nf_ne_f0 (by omega) h_4
    refine q_iconst F dX11_lacks_7 (v := nI 1) (by decide) ?_
    refine q_goto F (tgt := 12) dX11_lacks_8 (by decide) ?_
    refine q_zret F hr_ (by decide) dX11_lacks_12 (hp_ _ _ ⟨congrArg (fun z => some (Value.int z)) ?_, ?_⟩)
    · simp [bI, *]
    · rfl

set_option maxHeartbeats 4000000 in
set_option maxRecDepth 100000 in
theorem c_X11_isHouse (l : Launch) (E : gEnv) (a : Nat → Nat) (f : Nat → Int32) (hh : Int64) (A : Nat → Nat → Int32) (tl : va_W) (T : gTown) (hm : f 2 = nI (tN T)) (hn : tN T ≤ 6) (x : Int32) : Cn l E yX11_isHouse wsX11_isHouse (rmL 1 0 0) [.ref (a 32), .int x] (mC E a f hh A ++ tl) 0 0 (fun v w => v = some (.int (bI (hsB (tN T) x))) ∧ w = mC E a f hh A ++ tl) := by
  refine Cn.of (own := RX11) (cc := cX11_isHouse) (maxL := 2) (ret := (some .boolean)) (lv := [(0, .ref (a 32)), (1, .int x)]) (by decide) rfl rfl (Nat.le_of_ble_eq_true rfl) rfl ?_
  intro p_ e_ s_ m_ args_ below_ meth_ c_ A_ P_ hp_ F hr_ hnm_
  have hf67_11 : Cond.fieldLink RX11 67 "KeyOnStreetModel" (TX11 2).2.1 (TX11 2).2.2.1 ∈ wsX11_isHouse := by decide +kernel
  have hi11 : ∀ w ∈ u_ws RX11 TX11 32, w ∈ wsX11_isHouse := by decide +kernel
  have hd_X11_in : yX11_in.cls ≠ "java/lang/invoke/MethodHandle" ∧ yX11_in.cls ≠ "java/lang/invoke/VarHandle" ∧ (parseMethodDescriptor yX11_in.desc).map (fun d => d.parameters.length) = some 3 := by decide +kernel
  refine q_iload_n F 1 dX11_isHouse_0 rfl ?_
  refine q_i2l F dX11_isHouse_1 ?_
  refine q_lconst F dX11_isHouse_2 (v := 0) (by decide) ?_
  refine q_aload_n F 0 dX11_isHouse_3 rfl ?_
  refine q_get F (ci := 11) (j := 2) (List.mem_append_left _ (List.mem_of_getElem? (i := 0) rfl)) rfl hi11 (by decide) hf67_11 rfl rfl dX11_isHouse_4 ?_
  refine q_toi (nI (tN T)) (hm) ?_
  refine q_iconst F dX11_isHouse_7 (v := nI 1) (by decide) ?_
  refine q_isub F dX11_isHouse_8 ?_
  refine q_i2l F dX11_isHouse_9 ?_
  refine q_callS F (As := [.long x.toInt64, .long (0 : Int64), .long (((nI (tN T)) - (nI 1)).toInt64)]) (rest := []) (c_X11_in l E (mC E a f hh A ++ tl) x.toInt64 (0 : Int64) (((nI (tN T)) - (nI 1)).toInt64)) (List.Perm.refl _) gX11_isHouse_X11_in rfl rfl rfl hd_X11_in ⟨by decide, by decide⟩ rfl (Nat.le_of_ble_eq_true rfl) dX11_isHouse_10 ⟨by decide, by decide⟩ (fun v_ w_ hvw => ?_)
  rw [hvw.1, hvw.2]
  clear hvw
  refine q_at (pc' := 13) (st' := [.int (bI (inL x.toInt64 (0 : Int64) (((nI (tN T)) - (nI 1)).toInt64)))]) (ws' := mC E a f hh A ++ tl) (k' := 0) (n' := 0) rfl rfl rfl rfl rfl ?_
  refine q_toi (bI (inI x (nI 0) ((nI (tN T)) - (nI 1)))) (congrArg bI (inL_I (by decide) (rfl))) ?_
  refine q_toi (bI (hsB (tN T) x)) (congrArg bI (inI_hs hn x)) ?_
  refine q_zret F hr_ (bI_nar _) dX11_isHouse_13 (hp_ _ _ ⟨congrArg (fun z => some (Value.int z)) ?_, ?_⟩)
  · first | rfl | simp_all
  · rfl

set_option maxHeartbeats 4000000 in
set_option maxRecDepth 100000 in
theorem c_X11_isShut (l : Launch) (E : gEnv) (a : Nat → Nat) (f : Nat → Int32) (hh : Int64) (A : Nat → Nat → Int32) (tl : va_W) (T : gTown) (hm : f 2 = nI (tN T)) (hn : tN T ≤ 6) (h : Nat) (h6 : h < 6) : Cn l E yX11_isShut wsX11_isShut (rmL 0 0 0) [.ref (a 32), .int (nI h)] (mC E a f hh A ++ tl) 0 0 (fun v w => v = some (.int (bI (outB (sF (A 7)) h))) ∧ w = mC E a f hh A ++ tl) := by
  refine Cn.of (own := RX11) (cc := cX11_isShut) (maxL := 2) (ret := (some .boolean)) (lv := [(0, .ref (a 32)), (1, .int (nI h))]) (by decide) rfl rfl (Nat.le_of_ble_eq_true rfl) rfl ?_
  intro p_ e_ s_ m_ args_ below_ meth_ c_ A_ P_ hp_ F hr_ hnm_
  have hf13_11 : Cond.fieldLink RX11 13 "KeyOnStreetModel" (TX11 7).2.1 (TX11 7).2.2.1 ∈ wsX11_isShut := by decide +kernel
  have hi11 : ∀ w ∈ u_ws RX11 TX11 32, w ∈ wsX11_isShut := by decide +kernel
  refine q_aload_n F 0 dX11_isShut_0 rfl ?_
  refine q_get F (ci := 11) (j := 7) (List.mem_append_left _ (List.mem_of_getElem? (i := 0) rfl)) rfl hi11 (by decide) hf13_11 rfl rfl dX11_isShut_1 ?_
  refine q_bipush F dX11_isShut_4 (v := nI 8) (by decide) ?_
  refine q_iload_n F 1 dX11_isShut_6 rfl ?_
  refine q_imul F dX11_isShut_7 ?_
  refine q_toi (nI (8 * h)) (pk_mul _ _) ?_
  refine q_iconst F dX11_isShut_8 (v := nI 4) (by decide) ?_
  refine q_iadd F dX11_isShut_9 ?_
  refine q_toi (nI (8 * h + 4)) (nI_add _ _) ?_
  refine q_iald F (List.mem_append_left _ (List.mem_of_getElem? (i := 2) rfl)) (8 * h + 4) rfl (by omega) (by decide) dX11_isShut_10 ?_
  refine q_iconst F dX11_isShut_11 (v := (-1)) (by decide) ?_
  refine q_icmp_eq F (tgt := 19) dX11_isShut_12 (by decide) (fun h_12 => ?_) (fun h_12 => ?_)
  · skip
    refine q_iconst F dX11_isShut_19 (v := nI 0) (by decide) ?_
    refine q_zret F hr_ (by decide) dX11_isShut_20 (hp_ _ _ ⟨congrArg (fun z => some (Value.int z)) ?_, ?_⟩)
    · simp [outB, sF, bI, *]
    · rfl
  · skip
    refine q_iconst F dX11_isShut_15 (v := nI 1) (by decide) ?_
    refine q_goto F (tgt := 20) dX11_isShut_16 (by decide) ?_
    refine q_zret F hr_ (by decide) dX11_isShut_20 (hp_ _ _ ⟨congrArg (fun z => some (Value.int z)) ?_, ?_⟩)
    · simp [outB, sF, bI, *]
    · rfl

set_option maxHeartbeats 4000000 in
set_option maxRecDepth 100000 in
theorem c_X11_asItIs (l : Launch) (E : gEnv) (a : Nat → Nat) (f : Nat → Int32) (hh : Int64) (A : Nat → Nat → Int32) (tl : va_W) : Cn l E yX11_asItIs wsX11_asItIs (rmL 0 0 0) [.ref (a 32)] (mC E a f hh A ++ tl) 0 0 (fun v w => v = none ∧ w = mC E a (upd (upd (upd f 8 (f 3)) 9 (f 5)) 10 (f 4)) hh A ++ tl) := by
  refine Cn.of (own := RX11) (cc := cX11_asItIs) (maxL := 1) (ret := none) (lv := [(0, .ref (a 32))]) (by decide) rfl rfl (Nat.le_of_ble_eq_true rfl) rfl ?_
  intro p_ e_ s_ m_ args_ below_ meth_ c_ A_ P_ hp_ F hr_ hnm_
  have hf70_11 : Cond.fieldLink RX11 70 "KeyOnStreetModel" (TX11 3).2.1 (TX11 3).2.2.1 ∈ wsX11_asItIs := by decide +kernel
  have hi11 : ∀ w ∈ u_ws RX11 TX11 32, w ∈ wsX11_asItIs := by decide +kernel
  have hf102_11 : Cond.fieldLink RX11 102 "KeyOnStreetModel" (TX11 8).2.1 (TX11 8).2.2.1 ∈ wsX11_asItIs := by decide +kernel
  have hf76_11 : Cond.fieldLink RX11 76 "KeyOnStreetModel" (TX11 5).2.1 (TX11 5).2.2.1 ∈ wsX11_asItIs := by decide +kernel
  have hf105_11 : Cond.fieldLink RX11 105 "KeyOnStreetModel" (TX11 9).2.1 (TX11 9).2.2.1 ∈ wsX11_asItIs := by decide +kernel
  have hf73_11 : Cond.fieldLink RX11 73 "KeyOnStreetModel" (TX11 4).2.1 (TX11 4).2.2.1 ∈ wsX11_asItIs := by decide +kernel
  have hf108_11 : Cond.fieldLink RX11 108 "KeyOnStreetModel" (TX11 10).2.1 (TX11 10).2.2.1 ∈ wsX11_asItIs := by decide +kernel
  refine q_aload_n F 0 dX11_asItIs_0 rfl ?_
  refine q_aload_n F 0 dX11_asItIs_1 rfl ?_
  refine q_get F (ci := 11) (j := 3) (List.mem_append_left _ (List.mem_of_getElem? (i := 0) rfl)) rfl hi11 (by decide) hf70_11 rfl rfl dX11_asItIs_2 ?_
  refine q_put F (j := 8) 0 rfl rfl hi11 tyX11 tyX11_ok nmX11 (by decide) hf102_11 rfl rfl rfl rfl (Nat.le_of_ble_eq_true rfl) dX11_asItIs_5 (ws' := mC E a (upd f 8 (f 3)) hh A ++ tl) rfl ?_
  refine q_aload_n F 0 dX11_asItIs_8 rfl ?_
  refine q_aload_n F 0 dX11_asItIs_9 rfl ?_
  refine q_get F (ci := 11) (j := 5) (List.mem_append_left _ (List.mem_of_getElem? (i := 0) rfl)) rfl hi11 (by decide) hf76_11 rfl rfl dX11_asItIs_10 ?_
  refine q_put F (j := 9) 0 rfl rfl hi11 tyX11 tyX11_ok nmX11 (by decide) hf105_11 rfl rfl rfl rfl (Nat.le_of_ble_eq_true rfl) dX11_asItIs_13 (ws' := mC E a (upd (upd f 8 (f 3)) 9 (f 5)) hh A ++ tl) rfl ?_
  refine q_aload_n F 0 dX11_asItIs_16 rfl ?_
  refine q_aload_n F 0 dX11_asItIs_17 rfl ?_
  refine q_get F (ci := 11) (j := 4) (List.mem_append_left _ (List.mem_of_getElem? (i := 0) rfl)) rfl hi11 (by decide) hf73_11 rfl rfl dX11_asItIs_18 ?_
  refine q_put F (j := 10) 0 rfl rfl hi11 tyX11 tyX11_ok nmX11 (by decide) hf108_11 rfl rfl rfl rfl (Nat.le_of_ble_eq_true rfl) dX11_asItIs_21 (ws' := mC E a (upd (upd (upd f 8 (f 3)) 9 (f 5)) 10 (f 4)) hh A ++ tl) rfl ?_
  refine q_vret F hr_ dX11_asItIs_24 (hp_ _ _ ⟨rfl, ?_⟩)
  rfl

set_option maxHeartbeats 4000000 in
set_option maxRecDepth 100000 in
theorem c_X11_opens (l : Launch) (E : gEnv) (a : Nat → Nat) (f : Nat → Int32) (hh : Int64) (A : Nat → Nat → Int32) (tl : va_W) (T : gTown) (hm : f 2 = nI (tN T)) (hn : tN T ≤ 6) (hR : rowsOf (A 7) T) (hO : okT T) (h : Nat) (hlt : h < tN T) (hp8 : okP (f 8)) : Cn l E yX11_opens wsX11_opens (rmL 1 0 0) [.ref (a 32), .int (nI h)] (mC E a f hh A ++ tl) 0 0 (fun v w => v = some (.int (ltA (tK T h) (tL T h) (tE T h) (brg (tK T h) (tP T h) (f 8) (f 9) (f 10)))) ∧ w = mC E a (upd (upd (upd f 8 (tP T h)) 9 (brg (tK T h) (tP T h) (f 8) (f 9) (f 10))) 10 (kpu (tK T h) (brg (tK T h) (tP T h) (f 8) (f 9) (f 10)))) hh A ++ tl) := by
  refine Cn.of (own := RX11) (cc := cX11_opens) (maxL := 6) (ret := (some .int)) (lv := [(0, .ref (a 32)), (1, .int (nI h))]) (by decide) rfl rfl (Nat.le_of_ble_eq_true rfl) rfl ?_
  intro p_ e_ s_ m_ args_ below_ meth_ c_ A_ P_ hp_ F hr_ hnm_
  have hf13_11 : Cond.fieldLink RX11 13 "KeyOnStreetModel" (TX11 7).2.1 (TX11 7).2.2.1 ∈ wsX11_opens := by decide +kernel
  have hi11 : ∀ w ∈ u_ws RX11 TX11 32, w ∈ wsX11_opens := by decide +kernel
  have hf108_11 : Cond.fieldLink RX11 108 "KeyOnStreetModel" (TX11 10).2.1 (TX11 10).2.2.1 ∈ wsX11_opens := by decide +kernel
  have hf105_11 : Cond.fieldLink RX11 105 "KeyOnStreetModel" (TX11 9).2.1 (TX11 9).2.2.1 ∈ wsX11_opens := by decide +kernel
  have hf102_11 : Cond.fieldLink RX11 102 "KeyOnStreetModel" (TX11 8).2.1 (TX11 8).2.2.1 ∈ wsX11_opens := by decide +kernel
  have hd_X11_far : yX11_far.cls ≠ "java/lang/invoke/MethodHandle" ∧ yX11_far.cls ≠ "java/lang/invoke/VarHandle" ∧ (parseMethodDescriptor yX11_far.desc).map (fun d => d.parameters.length) = some 2 := by decide +kernel
  obtain ⟨r0, r1, r2, r3⟩ := hR h hlt
  have hk5 := (hO.2 h hlt).1
  have hfr : fr (f 8) (tP T h) = ab (f 8 - tP T h) := fr_ab hp8 (hO.2 h hlt).2.1
  refine q_aload_n F 0 dX11_opens_0 rfl ?_
  refine q_get F (ci := 11) (j := 7) (List.mem_append_left _ (List.mem_of_getElem? (i := 0) rfl)) rfl hi11 (by decide) hf13_11 rfl rfl dX11_opens_1 ?_
  refine q_bipush F dX11_opens_4 (v := nI 8) (by decide) ?_
  refine q_iload_n F 1 dX11_opens_6 rfl ?_
  refine q_imul F dX11_opens_7 ?_
  refine q_toi (nI (8 * h)) (pk_mul _ _) ?_
  refine q_iald F (List.mem_append_left _ (List.mem_of_getElem? (i := 2) rfl)) (8 * h) rfl (by omega) (by decide) dX11_opens_8 ?_
  refine q_toi (nI (tK T h)) (r0) ?_
  refine q_istore_n F (lv' := [(2, .int (nI (tK T h))), (0, .ref (a 32)), (1, .int (nI h))]) dX11_opens_9 (by decide) rfl ?_
  refine q_aload_n F 1 dX11_opens_10 rfl ?_
  refine q_get F (ci := 11) (j := 7) (List.mem_append_left _ (List.mem_of_getElem? (i := 0) rfl)) rfl hi11 (by decide) hf13_11 rfl rfl dX11_opens_11 ?_
  refine q_bipush F dX11_opens_14 (v := nI 8) (by decide) ?_
  refine q_iload_n F 2 dX11_opens_16 rfl ?_
  refine q_imul F dX11_opens_17 ?_
  refine q_toi (nI (8 * h)) (pk_mul _ _) ?_
  refine q_iconst F dX11_opens_18 (v := nI 1) (by decide) ?_
  refine q_iadd F dX11_opens_19 ?_
  refine q_toi (nI (8 * h + 1)) (nI_add _ _) ?_
  refine q_iald F (List.mem_append_left _ (List.mem_of_getElem? (i := 2) rfl)) (8 * h + 1) rfl (by omega) (by decide) dX11_opens_20 ?_
  refine q_toi (tP T h) (r1) ?_
  refine q_istore_n F (lv' := [(3, .int (tP T h)), (2, .int (nI (tK T h))), (0, .ref (a 32)), (1, .int (nI h))]) dX11_opens_21 (by decide) rfl ?_
  refine q_aload_n F 2 dX11_opens_22 rfl ?_
  refine q_get F (ci := 11) (j := 10) (List.mem_append_left _ (List.mem_of_getElem? (i := 0) rfl)) rfl hi11 (by decide) hf108_11 rfl rfl dX11_opens_23 ?_
  refine q_aload_n F 2 dX11_opens_26 rfl ?_
  refine q_get F (ci := 11) (j := 9) (List.mem_append_left _ (List.mem_of_getElem? (i := 0) rfl)) rfl hi11 (by decide) hf105_11 rfl rfl dX11_opens_27 ?_
  have jn44 : gW p_ l e_ (rmL 1 0 0) s_ m_ args_ below_ meth_ c_ E A_ 6 (MQ below_ (gQ E A_ P_) args_ s_ 0 0 A_) 44 [(3, .int (tP T h)), (2, .int (nI (tK T h))), (0, .ref (a 32)), (1, .int (nI h))] [.int (mx (f 9) (f 10))] (mC E a f hh A ++ tl) 0 0 := by
    refine q_istore F (lv' := [(4, .int (mx (f 9) (f 10))), (3, .int (tP T h)), (2, .int (nI (tK T h))), (0, .ref (a 32)), (1, .int (nI h))]) dX11_opens_44 (by decide) rfl ?_
    refine q_aload_n F 3 dX11_opens_46 rfl ?_
    refine q_iload F 0 dX11_opens_47 rfl ?_
    refine q_aload_n F 3 dX11_opens_49 rfl ?_
    refine q_get F (ci := 11) (j := 8) (List.mem_append_left _ (List.mem_of_getElem? (i := 0) rfl)) rfl hi11 (by decide) hf102_11 rfl rfl dX11_opens_50 ?_
    refine q_iload_n F 1 dX11_opens_53 rfl ?_
    refine q_callS F (As := [.int (f 8), .int (tP T h)]) (rest := [.int (mx (f 9) (f 10)), .ref (a 32)]) (c_X11_far l E (mC E a f hh A ++ tl) (f 8) (tP T h)) (List.Perm.refl _) gX11_opens_X11_far rfl rfl rfl hd_X11_far ⟨by decide, by decide⟩ rfl (Nat.le_of_ble_eq_true rfl) dX11_opens_54 ⟨by decide, by decide⟩ (fun v_ w_ hvw => ?_)
    rw [hvw.1, hvw.2]
    clear hvw
    refine q_at (pc' := 57) (st' := [.int (fr (f 8) (tP T h)), .int (mx (f 9) (f 10)), .ref (a 32)]) (ws' := mC E a f hh A ++ tl) (k' := 0) (n' := 0) rfl rfl rfl rfl rfl ?_
    refine q_iadd F dX11_opens_57 ?_
    refine q_iload_n F 2 dX11_opens_58 rfl ?_
    refine q_iconst F dX11_opens_59 (v := nI 3) (by decide) ?_
    have jn73 : gW p_ l e_ (rmL 1 0 0) s_ m_ args_ below_ meth_ c_ E A_ 6 (MQ below_ (gQ E A_ P_) args_ s_ 0 0 A_) 73 [(4, .int (mx (f 9) (f 10))), (3, .int (tP T h)), (2, .int (nI (tK T h))), (0, .ref (a 32)), (1, .int (nI h))] [.int (opn (tK T h)), .int ((mx (f 9) (f 10)) + (fr (f 8) (tP T h))), .ref (a 32)] (mC E a f hh A ++ tl) 0 0 := by
      refine q_iadd F dX11_opens_73 ?_
      refine q_toi (brg (tK T h) (tP T h) (f 8) (f 9) (f 10)) (by rw [brg, ← hfr]) ?_
      refine q_put F (j := 9) 0 rfl rfl hi11 tyX11 tyX11_ok nmX11 (by decide) hf105_11 rfl rfl rfl rfl (Nat.le_of_ble_eq_true rfl) dX11_opens_74 (ws' := mC E a (upd f 9 (brg (tK T h) (tP T h) (f 8) (f 9) (f 10))) hh A ++ tl) rfl ?_
      refine q_aload_n F 3 dX11_opens_77 rfl ?_
      refine q_iload_n F 1 dX11_opens_78 rfl ?_
      refine q_put F (j := 8) 0 rfl rfl hi11 tyX11 tyX11_ok nmX11 (by decide) hf102_11 rfl rfl rfl rfl (Nat.le_of_ble_eq_true rfl) dX11_opens_79 (ws' := mC E a (upd (upd f 8 (tP T h)) 9 (brg (tK T h) (tP T h) (f 8) (f 9) (f 10))) hh A ++ tl) rfl ?_
      refine q_aload_n F 3 dX11_opens_82 rfl ?_
      refine q_iload_n F 2 dX11_opens_83 rfl ?_
      refine q_iconst F dX11_opens_84 (v := nI 4) (by decide) ?_
      have jn98 : gW p_ l e_ (rmL 1 0 0) s_ m_ args_ below_ meth_ c_ E A_ 6 (MQ below_ (gQ E A_ P_) args_ s_ 0 0 A_) 98 [(4, .int (mx (f 9) (f 10))), (3, .int (tP T h)), (2, .int (nI (tK T h))), (0, .ref (a 32)), (1, .int (nI h))] [.int (kpu (tK T h) (brg (tK T h) (tP T h) (f 8) (f 9) (f 10))), .ref (a 32)] (mC E a (upd (upd f 8 (tP T h)) 9 (brg (tK T h) (tP T h) (f 8) (f 9) (f 10))) hh A ++ tl) 0 0 := by
        refine q_put F (j := 10) 0 rfl rfl hi11 tyX11 tyX11_ok nmX11 (by decide) hf108_11 rfl rfl rfl rfl (Nat.le_of_ble_eq_true rfl) dX11_opens_98 (ws' := mC E a (upd (upd (upd f 8 (tP T h)) 9 (brg (tK T h) (tP T h) (f 8) (f 9) (f 10))) 10 (kpu (tK T h) (brg (tK T h) (tP T h) (f 8) (f 9) (f 10)))) hh A ++ tl) rfl ?_
        refine q_aload_n F 3 dX11_opens_101 rfl ?_
        refine q_get F (ci := 11) (j := 9) (List.mem_append_left _ (List.mem_of_getElem? (i := 0) rfl)) rfl hi11 (by decide) hf105_11 rfl rfl dX11_opens_102 ?_
        refine q_iconst F dX11_opens_105 (v := nI 4) (by decide) ?_
        refine q_aload_n F 3 dX11_opens_106 rfl ?_
        refine q_get F (ci := 11) (j := 7) (List.mem_append_left _ (List.mem_of_getElem? (i := 0) rfl)) rfl hi11 (by decide) hf13_11 rfl rfl dX11_opens_107 ?_
        refine q_bipush F dX11_opens_110 (v := nI 8) (by decide) ?_
        refine q_iload_n F 4 dX11_opens_112 rfl ?_
        refine q_imul F dX11_opens_113 ?_
        refine q_toi (nI (8 * h)) (pk_mul _ _) ?_
        refine q_iconst F dX11_opens_114 (v := nI 2) (by decide) ?_
        refine q_iadd F dX11_opens_115 ?_
        refine q_toi (nI (8 * h + 2)) (nI_add _ _) ?_
        refine q_iald F (List.mem_append_left _ (List.mem_of_getElem? (i := 2) rfl)) (8 * h + 2) rfl (by omega) (by decide) dX11_opens_116 ?_
        refine q_toi (tL T h) (r2) ?_
        refine q_imul F dX11_opens_117 ?_
        refine q_isub F dX11_opens_118 ?_
        refine q_istore F (lv' := [(5, .int ((brg (tK T h) (tP T h) (f 8) (f 9) (f 10)) - ((nI 4) * (tL T h)))), (4, .int (mx (f 9) (f 10))), (3, .int (tP T h)), (2, .int (nI (tK T h))), (0, .ref (a 32)), (1, .int (nI h))]) dX11_opens_119 (by decide) rfl ?_
        refine q_iload_n F 3 dX11_opens_121 rfl ?_
        refine q_iconst F dX11_opens_122 (v := nI 2) (by decide) ?_
        have jn149 : gW p_ l e_ (rmL 1 0 0) s_ m_ args_ below_ meth_ c_ E A_ 6 (MQ below_ (gQ E A_ P_) args_ s_ 0 0 A_) 149 [(5, .int ((brg (tK T h) (tP T h) (f 8) (f 9) (f 10)) - ((nI 4) * (tL T h)))), (4, .int (mx (f 9) (f 10))), (3, .int (tP T h)), (2, .int (nI (tK T h))), (0, .ref (a 32)), (1, .int (nI h))] [.int (ltA (tK T h) (tL T h) (tE T h) (brg (tK T h) (tP T h) (f 8) (f 9) (f 10)))] (mC E a (upd (upd (upd f 8 (tP T h)) 9 (brg (tK T h) (tP T h) (f 8) (f 9) (f 10))) 10 (kpu (tK T h) (brg (tK T h) (tP T h) (f 8) (f 9) (f 10)))) hh A ++ tl) 0 0 := by
          refine q_iret F hr_ dX11_opens_149 (hp_ _ _ ⟨congrArg (fun z => some (Value.int z)) ?_, ?_⟩)
          · first | rfl | simp_all
          · rfl
        refine q_icmp_eq F (tgt := 131) dX11_opens_123 (by decide) (fun h_123 => ?_) (fun h_123 => ?_)
        · skip
          have hn_123 : (tK T h) = 2 := nf_eq_t (by omega) (by omega) h_123
          refine q_iconst F dX11_opens_131 (v := nI 0) (by decide) ?_
          refine q_goto F (tgt := 149) dX11_opens_132 (by decide) ?_
          refine q_toi (ltA (tK T h) (tL T h) (tE T h) (brg (tK T h) (tP T h) (f 8) (f 9) (f 10))) (by first | (rw [hn_123]; rfl) | (rw [ltA_n hn_123]; exact lt_neg h_128) | (rw [ltA_n hn_123]; exact lt_pos h_128)) ?_
          exact jn149
        · skip
          have hn_123 : (tK T h) ≠ 2 := nf_eq_f (by omega) (by omega) h_123
          refine q_iload F 0 dX11_opens_126 rfl ?_
          refine q_if_ge F (tgt := 135) dX11_opens_128 (by decide) (fun h_128 => ?_) (fun h_128 => ?_)
          · skip
            have hz_128 := Int32.not_lt.mpr h_128
            refine q_iload F 0 dX11_opens_135 rfl ?_
            refine q_aload_n F 4 dX11_opens_137 rfl ?_
            refine q_get F (ci := 11) (j := 7) (List.mem_append_left _ (List.mem_of_getElem? (i := 0) rfl)) rfl hi11 (by decide) hf13_11 rfl rfl dX11_opens_138 ?_
            refine q_bipush F dX11_opens_141 (v := nI 8) (by decide) ?_
            refine q_iload_n F 5 dX11_opens_143 rfl ?_
            refine q_imul F dX11_opens_144 ?_
            refine q_toi (nI (8 * h)) (pk_mul _ _) ?_
            refine q_iconst F dX11_opens_145 (v := nI 3) (by decide) ?_
            refine q_iadd F dX11_opens_146 ?_
            refine q_toi (nI (8 * h + 3)) (nI_add _ _) ?_
            refine q_iald F (List.mem_append_left _ (List.mem_of_getElem? (i := 2) rfl)) (8 * h + 3) rfl (by omega) (by decide) dX11_opens_147 ?_
            refine q_toi (tE T h) (r3) ?_
            refine q_imul F dX11_opens_148 ?_
            refine q_toi (ltA (tK T h) (tL T h) (tE T h) (brg (tK T h) (tP T h) (f 8) (f 9) (f 10))) (by first | (rw [hn_123]; rfl) | (rw [ltA_n hn_123]; exact lt_neg h_128) | (rw [ltA_n hn_123]; exact lt_pos h_128)) ?_
            exact jn149
          · skip
            have hz_128 := Int32.not_le.mp h_128
            refine q_iconst F dX11_opens_131 (v := nI 0) (by decide) ?_
            refine q_goto F (tgt := 149) dX11_opens_132 (by decide) ?_
            refine q_toi (ltA (tK T h) (tL T h) (tE T h) (brg (tK T h) (tP T h) (f 8) (f 9) (f 10))) (by first | (rw [hn_123]; rfl) | (rw [ltA_n hn_123]; exact lt_neg h_128) | (rw [ltA_n hn_123]; exact lt_pos h_128)) ?_
            exact jn149
      refine q_icmp_ne F (tgt := 97) dX11_opens_85 (by decide) (fun h_85 => ?_) (fun h_85 => ?_)
      · skip
        have hn_85 : (tK T h) ≠ 4 := nf_ne_t (by omega) (by omega) h_85
        refine q_iconst F dX11_opens_97 (v := nI 0) (by decide) ?_
        refine q_toi (kpu (tK T h) (brg (tK T h) (tP T h) (f 8) (f 9) (f 10))) (by first | (rw [hn_85]; rfl) | exact (kpu_0 hn_85).symm) ?_
        exact jn98
      · skip
        have hn_85 : (tK T h) = 4 := nf_ne_f (by omega) (by omega) h_85
        refine q_aload_n F 3 dX11_opens_88 rfl ?_
        refine q_get F (ci := 11) (j := 9) (List.mem_append_left _ (List.mem_of_getElem? (i := 0) rfl)) rfl hi11 (by decide) hf105_11 rfl rfl dX11_opens_89 ?_
        refine q_iconst F dX11_opens_92 (v := nI 5) (by decide) ?_
        refine q_iadd F dX11_opens_93 ?_
        refine q_goto F (tgt := 98) dX11_opens_94 (by decide) ?_
        refine q_toi (kpu (tK T h) (brg (tK T h) (tP T h) (f 8) (f 9) (f 10))) (by first | (rw [hn_85]; rfl) | exact (kpu_0 hn_85).symm) ?_
        exact jn98
    refine q_icmp_eq F (tgt := 68) dX11_opens_60 (by decide) (fun h_60 => ?_) (fun h_60 => ?_)
    · skip
      have hn_60 : (tK T h) = 3 := nf_eq_t (by omega) (by omega) h_60
      refine q_iconst F dX11_opens_68 (v := nI 0) (by decide) ?_
      refine q_goto F (tgt := 73) dX11_opens_69 (by decide) ?_
      refine q_toi (opn (tK T h)) (by first | (rw [hn_60]; rfl) | (rw [hn_65]; rfl) | exact (opn_1 hn_60 hn_65).symm) ?_
      exact jn73
    · skip
      have hn_60 : (tK T h) ≠ 3 := nf_eq_f (by omega) (by omega) h_60
      refine q_iload_n F 2 dX11_opens_63 rfl ?_
      refine q_iconst F dX11_opens_64 (v := nI 4) (by decide) ?_
      refine q_icmp_ne F (tgt := 72) dX11_opens_65 (by decide) (fun h_65 => ?_) (fun h_65 => ?_)
      · skip
        have hn_65 : (tK T h) ≠ 4 := nf_ne_t (by omega) (by omega) h_65
        refine q_iconst F dX11_opens_72 (v := nI 1) (by decide) ?_
        refine q_toi (opn (tK T h)) (by first | (rw [hn_60]; rfl) | (rw [hn_65]; rfl) | exact (opn_1 hn_60 hn_65).symm) ?_
        exact jn73
      · skip
        have hn_65 : (tK T h) = 4 := nf_ne_f (by omega) (by omega) h_65
        refine q_iconst F dX11_opens_68 (v := nI 0) (by decide) ?_
        refine q_goto F (tgt := 73) dX11_opens_69 (by decide) ?_
        refine q_toi (opn (tK T h)) (by first | (rw [hn_60]; rfl) | (rw [hn_65]; rfl) | exact (opn_1 hn_60 hn_65).symm) ?_
        exact jn73
  refine q_icmp_le F (tgt := 40) dX11_opens_30 (by decide) (fun h_30 => ?_) (fun h_30 => ?_)
  · skip
    have hz_30 := Int32.not_lt.mpr h_30
    refine q_aload_n F 2 dX11_opens_40 rfl ?_
    refine q_get F (ci := 11) (j := 9) (List.mem_append_left _ (List.mem_of_getElem? (i := 0) rfl)) rfl hi11 (by decide) hf105_11 rfl rfl dX11_opens_41 ?_
    refine q_toi (mx (f 9) (f 10)) (by first | exact (mx_l h_30).symm | exact (mx_r h_30).symm) ?_
    exact jn44
  · skip
    have hz_30 := Int32.not_le.mp h_30
    refine q_aload_n F 2 dX11_opens_33 rfl ?_
    refine q_get F (ci := 11) (j := 10) (List.mem_append_left _ (List.mem_of_getElem? (i := 0) rfl)) rfl hi11 (by decide) hf108_11 rfl rfl dX11_opens_34 ?_
    refine q_goto F (tgt := 44) dX11_opens_37 (by decide) ?_
    refine q_toi (mx (f 9) (f 10)) (by first | exact (mx_l h_30).symm | exact (mx_r h_30).symm) ?_
    exact jn44

set_option maxHeartbeats 4000000 in
set_option maxRecDepth 100000 in
theorem c_X11_shutBits (l : Launch) (E : gEnv) (a : Nat → Nat) (f : Nat → Int32) (hh : Int64) (A : Nat → Nat → Int32) (tl : va_W) (T : gTown) (hm : f 2 = nI (tN T)) (hn : tN T ≤ 6) : Cn l E yX11_shutBits wsX11_shutBits (rmL 1 0 0) [.ref (a 32)] (mC E a f hh A ++ tl) 0 0 (fun v w => v = some (.int (wb (shB T (A 7)) 6)) ∧ w = mC E a f hh A ++ tl) := by
  refine Cn.of (own := RX11) (cc := cX11_shutBits) (maxL := 3) (ret := (some .int)) (lv := [(0, .ref (a 32))]) (by decide) rfl rfl (Nat.le_of_ble_eq_true rfl) rfl ?_
  intro p_ e_ s_ m_ args_ below_ meth_ c_ A_ P_ hp_ F hr_ hnm_
  have hf67_11 : Cond.fieldLink RX11 67 "KeyOnStreetModel" (TX11 2).2.1 (TX11 2).2.2.1 ∈ wsX11_shutBits := by decide +kernel
  have hi11 : ∀ w ∈ u_ws RX11 TX11 32, w ∈ wsX11_shutBits := by decide +kernel
  have hd_X11_isShut : yX11_isShut.cls = RX11 ∧ yX11_isShut.cls ≠ "java/lang/invoke/MethodHandle" ∧ yX11_isShut.cls ≠ "java/lang/invoke/VarHandle" ∧ (parseMethodDescriptor yX11_isShut.desc).map (fun d => d.parameters.length) = some 1 := by decide +kernel
  refine q_iconst F dX11_shutBits_0 (v := nI 0) (by decide) ?_
  refine q_istore_n F (lv' := [(1, .int (nI 0)), (0, .ref (a 32))]) dX11_shutBits_1 (by decide) rfl ?_
  refine q_iconst F dX11_shutBits_2 (v := nI 0) (by decide) ?_
  refine q_istore_n F (lv' := [(2, .int (nI 0)), (1, .int (nI 0)), (0, .ref (a 32))]) dX11_shutBits_3 (by decide) rfl ?_
  have lb4 : ∀ (fu : Nat) (i : Nat) (hi : i ≤ tN T), tN T - i < fu → gW p_ l e_ (rmL 1 0 0) s_ m_ args_ below_ meth_ c_ E A_ 3 (MQ below_ (gQ E A_ P_) args_ s_ 0 0 A_) 4 [(0, .ref (a 32)), (1, .int (wtB (sF (A 7)) i)), (2, .int (nI i))] [] (mC E a f hh A ++ tl) 0 0 := by
    intro fu_4
    induction fu_4 with
    | zero => intro i hi hfu; exact absurd hfu (Nat.not_lt_zero _)
    | succ fu_4 ih_4 =>
      intro i hi hfu_4
      refine q_iload_n F 2 dX11_shutBits_4 rfl ?_
      refine q_aload_n F 0 dX11_shutBits_5 rfl ?_
      refine q_get F (ci := 11) (j := 2) (List.mem_append_left _ (List.mem_of_getElem? (i := 0) rfl)) rfl hi11 (by decide) hf67_11 rfl rfl dX11_shutBits_6 ?_
      refine q_toi (nI (tN T)) (hm) ?_
      refine q_icmp_ge F (tgt := 36) dX11_shutBits_9 (by decide) (fun h_9 => ?_) (fun h_9 => ?_)
      · skip
        have hn_9 : i ≥ (tN T) := nf_ge_t (by omega) (by omega) h_9
        refine q_iload_n F 1 dX11_shutBits_36 rfl ?_
        refine q_iret F hr_ dX11_shutBits_37 (hp_ _ _ ⟨congrArg (fun z => some (Value.int z)) ?_, ?_⟩)
        · (have e6 : i = tN T := by omega); rw [e6]; exact shB_wt hn _
        · rfl
      · skip
        have hn_9 : i < (tN T) := nf_ge_f (by omega) (by omega) h_9
        refine q_iload_n F 1 dX11_shutBits_12 rfl ?_
        refine q_aload_n F 0 dX11_shutBits_13 rfl ?_
        refine q_iload_n F 2 dX11_shutBits_14 rfl ?_
        refine q_callV F (ci := 11) (As := [.int (nI i)]) (rest := [.int (wtB (sF (A 7)) i)]) (List.mem_append_left _ (List.mem_of_getElem? (i := 0) rfl)) rfl (c_X11_isShut l E a f hh A tl T hm hn i (by omega)) (List.Perm.refl _) gX11_shutBits_X11_isShut rfl rfl rfl hd_X11_isShut ⟨by decide, by decide⟩ rfl (Nat.le_of_ble_eq_true rfl) dX11_shutBits_15 ⟨by decide, by decide⟩ (fun v_ w_ hvw => ?_)
        rw [hvw.1, hvw.2]
        clear hvw
        refine q_at (pc' := 18) (st' := [.int (bI (outB (sF (A 7)) i)), .int (wtB (sF (A 7)) i)]) (ws' := mC E a f hh A ++ tl) (k' := 0) (n' := 0) rfl rfl rfl rfl rfl ?_
        refine q_if_eq F (tgt := 27) dX11_shutBits_18 (by decide) (fun h_18 => ?_) (fun h_18 => ?_)
        · skip
          have hb_18 := bI_0 h_18
          refine q_iconst F dX11_shutBits_27 (v := nI 0) (by decide) ?_
          refine q_ior F dX11_shutBits_28 ?_
          refine q_istore_n F (lv' := [(1, .int ((wtB (sF (A 7)) i) ||| (nI 0))), (0, .ref (a 32)), (2, .int (nI i))]) dX11_shutBits_29 (by decide) rfl ?_
          refine q_iinc F 2 (v := nI (i + 1)) (lv' := [(2, .int (nI (i + 1))), (1, .int ((wtB (sF (A 7)) i) ||| (nI 0))), (0, .ref (a 32))]) dX11_shutBits_30 rfl (nI_1 _) (by decide) rfl ?_
          refine q_goto F (tgt := 4) dX11_shutBits_33 (by decide) ?_
          refine q_lv [2, 1, 0] (lv' := [(0, .ref (a 32)), (1, .int ((wtB (sF (A 7)) i) ||| (nI 0))), (2, .int (nI (i + 1)))]) rfl ?_
          refine q_to (lv' := [(0, .ref (a 32)), (1, .int (wtB (sF (A 7)) (i + 1))), (2, .int (nI (i + 1)))]) (st' := []) (ws' := mC E a f hh A ++ tl) (cE (vE (rfl)) (cE (vE (congrArg Value.int (by first | rfl | (rw [wtB, if_neg (outB_t hb_18)]) | (rw [wtB, if_pos (outB_f hb_18), or_0])))) (cE (vE (rfl)) rfl))) rfl rfl ?_
          exact ih_4 (i + 1) (by omega) (by omega)
        · skip
          have hb_18 := bI_1 h_18
          refine q_iconst F dX11_shutBits_21 (v := nI 1) (by decide) ?_
          refine q_iload_n F 2 dX11_shutBits_22 rfl ?_
          refine q_ishl F dX11_shutBits_23 ?_
          refine q_goto F (tgt := 28) dX11_shutBits_24 (by decide) ?_
          refine q_ior F dX11_shutBits_28 ?_
          refine q_istore_n F (lv' := [(1, .int ((wtB (sF (A 7)) i) ||| ((nI 1) <<< ((nI i) &&& 31)))), (0, .ref (a 32)), (2, .int (nI i))]) dX11_shutBits_29 (by decide) rfl ?_
          refine q_iinc F 2 (v := nI (i + 1)) (lv' := [(2, .int (nI (i + 1))), (1, .int ((wtB (sF (A 7)) i) ||| ((nI 1) <<< ((nI i) &&& 31)))), (0, .ref (a 32))]) dX11_shutBits_30 rfl (nI_1 _) (by decide) rfl ?_
          refine q_goto F (tgt := 4) dX11_shutBits_33 (by decide) ?_
          refine q_lv [2, 1, 0] (lv' := [(0, .ref (a 32)), (1, .int ((wtB (sF (A 7)) i) ||| ((nI 1) <<< ((nI i) &&& 31)))), (2, .int (nI (i + 1)))]) rfl ?_
          refine q_to (lv' := [(0, .ref (a 32)), (1, .int (wtB (sF (A 7)) (i + 1))), (2, .int (nI (i + 1)))]) (st' := []) (ws' := mC E a f hh A ++ tl) (cE (vE (rfl)) (cE (vE (congrArg Value.int (by first | rfl | (rw [wtB, if_neg (outB_t hb_18)]) | (rw [wtB, if_pos (outB_f hb_18), or_0])))) (cE (vE (rfl)) rfl))) rfl rfl ?_
          exact ih_4 (i + 1) (by omega) (by omega)
  refine q_lv [2, 1, 0] (lv' := [(0, .ref (a 32)), (1, .int (nI 0)), (2, .int (nI 0))]) rfl ?_
  refine q_to (lv' := [(0, .ref (a 32)), (1, .int (wtB (sF (A 7)) 0)), (2, .int (nI 0))]) (st' := []) (ws' := mC E a f hh A ++ tl) (cE (vE (rfl)) (cE (vE (congrArg Value.int (by first | rfl | (rw [wtB, if_neg (outB_t hb_18)]) | (rw [wtB, if_pos (outB_f hb_18), or_0])))) (cE (vE (rfl)) rfl))) rfl rfl ?_
  exact lb4 (tN T - 0 + 1) 0 (by omega) (Nat.lt_succ_self _)

set_option maxHeartbeats 4000000 in
set_option maxRecDepth 100000 in
theorem c_X11_mayOpen (l : Launch) (E : gEnv) (a : Nat → Nat) (f : Nat → Int32) (hh : Int64) (A : Nat → Nat → Int32) (tl : va_W) (T : gTown) (hm : f 2 = nI (tN T)) (hn : tN T ≤ 6) (hR : rowsOf (A 7) T) (hO : okT T) (x : Int32) : Cn l E yX11_mayOpen wsX11_mayOpen (rmL 0 0 0) [.ref (a 32), .int x] (mC E a f hh A ++ tl) 0 0 (fun v w => v = some (.int (myM T x)) ∧ w = mC E a f hh A ++ tl) := by
  refine Cn.of (own := RX11) (cc := cX11_mayOpen) (maxL := 4) (ret := (some .int)) (lv := [(0, .ref (a 32)), (1, .int x)]) (by decide) rfl rfl (Nat.le_of_ble_eq_true rfl) rfl ?_
  intro p_ e_ s_ m_ args_ below_ meth_ c_ A_ P_ hp_ F hr_ hnm_
  have hf67_11 : Cond.fieldLink RX11 67 "KeyOnStreetModel" (TX11 2).2.1 (TX11 2).2.2.1 ∈ wsX11_mayOpen := by decide +kernel
  have hi11 : ∀ w ∈ u_ws RX11 TX11 32, w ∈ wsX11_mayOpen := by decide +kernel
  have hf13_11 : Cond.fieldLink RX11 13 "KeyOnStreetModel" (TX11 7).2.1 (TX11 7).2.2.1 ∈ wsX11_mayOpen := by decide +kernel
  refine q_iconst F dX11_mayOpen_0 (v := nI 0) (by decide) ?_
  refine q_istore_n F (lv' := [(2, .int (nI 0)), (0, .ref (a 32)), (1, .int x)]) dX11_mayOpen_1 (by decide) rfl ?_
  refine q_iconst F dX11_mayOpen_2 (v := nI 0) (by decide) ?_
  refine q_istore_n F (lv' := [(3, .int (nI 0)), (2, .int (nI 0)), (0, .ref (a 32)), (1, .int x)]) dX11_mayOpen_3 (by decide) rfl ?_
  have lb4 : ∀ (fu : Nat) (i : Nat) (hi : i ≤ tN T), tN T - i < fu → gW p_ l e_ (rmL 0 0 0) s_ m_ args_ below_ meth_ c_ E A_ 4 (MQ below_ (gQ E A_ P_) args_ s_ 0 0 A_) 4 [(0, .ref (a 32)), (1, .int x), (2, .int (mwM T x i)), (3, .int (nI i))] [] (mC E a f hh A ++ tl) 0 0 := by
    intro fu_4
    induction fu_4 with
    | zero => intro i hi hfu; exact absurd hfu (Nat.not_lt_zero _)
    | succ fu_4 ih_4 =>
      intro i hi hfu_4
      refine q_iload_n F 3 dX11_mayOpen_4 rfl ?_
      refine q_aload_n F 0 dX11_mayOpen_5 rfl ?_
      refine q_get F (ci := 11) (j := 2) (List.mem_append_left _ (List.mem_of_getElem? (i := 0) rfl)) rfl hi11 (by decide) hf67_11 rfl rfl dX11_mayOpen_6 ?_
      refine q_toi (nI (tN T)) (hm) ?_
      refine q_icmp_ge F (tgt := 50) dX11_mayOpen_9 (by decide) (fun h_9 => ?_) (fun h_9 => ?_)
      · skip
        have hn_9 : i ≥ (tN T) := nf_ge_t (by omega) (by omega) h_9
        refine q_iload_n F 2 dX11_mayOpen_50 rfl ?_
        refine q_if_ne F (tgt := 58) dX11_mayOpen_51 (by decide) (fun h_51 => ?_) (fun h_51 => ?_)
        · skip
          refine q_iload_n F 2 dX11_mayOpen_58 rfl ?_
          refine q_iret F hr_ dX11_mayOpen_59 (hp_ _ _ ⟨congrArg (fun z => some (Value.int z)) ?_, ?_⟩)
          · (have e6 : i = tN T := by omega); subst e6; simp [myM, *]
          · rfl
        · skip
          refine q_iload_n F 1 dX11_mayOpen_54 rfl ?_
          refine q_goto F (tgt := 59) dX11_mayOpen_55 (by decide) ?_
          refine q_iret F hr_ dX11_mayOpen_59 (hp_ _ _ ⟨congrArg (fun z => some (Value.int z)) ?_, ?_⟩)
          · (have e6 : i = tN T := by omega); subst e6; simp [myM, *]
          · rfl
      · skip
        have hn_9 : i < (tN T) := nf_ge_f (by omega) (by omega) h_9
        refine q_iload_n F 2 dX11_mayOpen_12 rfl ?_
        refine q_iload_n F 1 dX11_mayOpen_13 rfl ?_
        refine q_iload_n F 3 dX11_mayOpen_14 rfl ?_
        refine q_ishr F dX11_mayOpen_15 ?_
        refine q_iconst F dX11_mayOpen_16 (v := nI 1) (by decide) ?_
        refine q_iand F dX11_mayOpen_17 ?_
        refine q_iconst F dX11_mayOpen_18 (v := nI 1) (by decide) ?_
        refine q_icmp_ne F (tgt := 41) dX11_mayOpen_19 (by decide) (fun h_19 => ?_) (fun h_19 => ?_)
        · skip
          refine q_iconst F dX11_mayOpen_41 (v := nI 0) (by decide) ?_
          refine q_ior F dX11_mayOpen_42 ?_
          refine q_istore_n F (lv' := [(2, .int ((mwM T x i) ||| (nI 0))), (0, .ref (a 32)), (1, .int x), (3, .int (nI i))]) dX11_mayOpen_43 (by decide) rfl ?_
          refine q_iinc F 3 (v := nI (i + 1)) (lv' := [(3, .int (nI (i + 1))), (2, .int ((mwM T x i) ||| (nI 0))), (0, .ref (a 32)), (1, .int x)]) dX11_mayOpen_44 rfl (nI_1 _) (by decide) rfl ?_
          refine q_goto F (tgt := 4) dX11_mayOpen_47 (by decide) ?_
          refine q_lv [2, 3, 1, 0] (lv' := [(0, .ref (a 32)), (1, .int x), (2, .int ((mwM T x i) ||| (nI 0))), (3, .int (nI (i + 1)))]) rfl ?_
          refine q_to (lv' := [(0, .ref (a 32)), (1, .int x), (2, .int (mwM T x (i + 1))), (3, .int (nI (i + 1)))]) (st' := []) (ws' := mC E a f hh A ++ tl) (cE (vE (rfl)) (cE (vE (rfl)) (cE (vE (congrArg Value.int (by first | rfl | simp [mwM, or_0, *]))) (cE (vE (rfl)) rfl)))) rfl rfl ?_
          exact ih_4 (i + 1) (by omega) (by omega)
        · skip
          refine q_aload_n F 0 dX11_mayOpen_22 rfl ?_
          refine q_get F (ci := 11) (j := 7) (List.mem_append_left _ (List.mem_of_getElem? (i := 0) rfl)) rfl hi11 (by decide) hf13_11 rfl rfl dX11_mayOpen_23 ?_
          refine q_bipush F dX11_mayOpen_26 (v := nI 8) (by decide) ?_
          refine q_iload_n F 3 dX11_mayOpen_28 rfl ?_
          refine q_imul F dX11_mayOpen_29 ?_
          refine q_toi (nI (8 * i)) (pk_mul _ _) ?_
          refine q_iald F (List.mem_append_left _ (List.mem_of_getElem? (i := 2) rfl)) (8 * i) rfl (by omega) (by decide) dX11_mayOpen_30 ?_
          refine q_toi (nI (tK T i)) ((hR i (by omega)).1) ?_
          have hk5 := (hO.2 i (by omega)).1
          refine q_iconst F dX11_mayOpen_31 (v := nI 1) (by decide) ?_
          refine q_icmp_ne F (tgt := 41) dX11_mayOpen_32 (by decide) (fun h_32 => ?_) (fun h_32 => ?_)
          · skip
            have hn_32 : (tK T i) ≠ 1 := nf_ne_t (by omega) (by omega) h_32
            refine q_iconst F dX11_mayOpen_41 (v := nI 0) (by decide) ?_
            refine q_ior F dX11_mayOpen_42 ?_
            refine q_istore_n F (lv' := [(2, .int ((mwM T x i) ||| (nI 0))), (0, .ref (a 32)), (1, .int x), (3, .int (nI i))]) dX11_mayOpen_43 (by decide) rfl ?_
            refine q_iinc F 3 (v := nI (i + 1)) (lv' := [(3, .int (nI (i + 1))), (2, .int ((mwM T x i) ||| (nI 0))), (0, .ref (a 32)), (1, .int x)]) dX11_mayOpen_44 rfl (nI_1 _) (by decide) rfl ?_
            refine q_goto F (tgt := 4) dX11_mayOpen_47 (by decide) ?_
            refine q_lv [2, 3, 1, 0] (lv' := [(0, .ref (a 32)), (1, .int x), (2, .int ((mwM T x i) ||| (nI 0))), (3, .int (nI (i + 1)))]) rfl ?_
            refine q_to (lv' := [(0, .ref (a 32)), (1, .int x), (2, .int (mwM T x (i + 1))), (3, .int (nI (i + 1)))]) (st' := []) (ws' := mC E a f hh A ++ tl) (cE (vE (rfl)) (cE (vE (rfl)) (cE (vE (congrArg Value.int (by first | rfl | simp [mwM, or_0, *]))) (cE (vE (rfl)) rfl)))) rfl rfl ?_
            exact ih_4 (i + 1) (by omega) (by omega)
          · skip
            have hn_32 : (tK T i) = 1 := nf_ne_f (by omega) (by omega) h_32
            refine q_iconst F dX11_mayOpen_35 (v := nI 1) (by decide) ?_
            refine q_iload_n F 3 dX11_mayOpen_36 rfl ?_
            refine q_ishl F dX11_mayOpen_37 ?_
            refine q_goto F (tgt := 42) dX11_mayOpen_38 (by decide) ?_
            refine q_ior F dX11_mayOpen_42 ?_
            refine q_istore_n F (lv' := [(2, .int ((mwM T x i) ||| ((nI 1) <<< ((nI i) &&& 31)))), (0, .ref (a 32)), (1, .int x), (3, .int (nI i))]) dX11_mayOpen_43 (by decide) rfl ?_
            refine q_iinc F 3 (v := nI (i + 1)) (lv' := [(3, .int (nI (i + 1))), (2, .int ((mwM T x i) ||| ((nI 1) <<< ((nI i) &&& 31)))), (0, .ref (a 32)), (1, .int x)]) dX11_mayOpen_44 rfl (nI_1 _) (by decide) rfl ?_
            refine q_goto F (tgt := 4) dX11_mayOpen_47 (by decide) ?_
            refine q_lv [2, 3, 1, 0] (lv' := [(0, .ref (a 32)), (1, .int x), (2, .int ((mwM T x i) ||| ((nI 1) <<< ((nI i) &&& 31)))), (3, .int (nI (i + 1)))]) rfl ?_
            refine q_to (lv' := [(0, .ref (a 32)), (1, .int x), (2, .int (mwM T x (i + 1))), (3, .int (nI (i + 1)))]) (st' := []) (ws' := mC E a f hh A ++ tl) (cE (vE (rfl)) (cE (vE (rfl)) (cE (vE (congrArg Value.int (by first | rfl | simp [mwM, or_0, *]))) (cE (vE (rfl)) rfl)))) rfl rfl ?_
            exact ih_4 (i + 1) (by omega) (by omega)
  refine q_lv [2, 3, 1, 0] (lv' := [(0, .ref (a 32)), (1, .int x), (2, .int (nI 0)), (3, .int (nI 0))]) rfl ?_
  refine q_to (lv' := [(0, .ref (a 32)), (1, .int x), (2, .int (mwM T x 0)), (3, .int (nI 0))]) (st' := []) (ws' := mC E a f hh A ++ tl) (cE (vE (rfl)) (cE (vE (rfl)) (cE (vE (congrArg Value.int (by first | rfl | simp [mwM, or_0, *]))) (cE (vE (rfl)) rfl)))) rfl rfl ?_
  exact lb4 (tN T - 0 + 1) 0 (by omega) (Nat.lt_succ_self _)

set_option maxHeartbeats 4000000 in
set_option maxRecDepth 100000 in
theorem c_X11_valueOf (l : Launch) (E : gEnv) (a : Nat → Nat) (f : Nat → Int32) (hh : Int64) (A : Nat → Nat → Int32) (tl : va_W) (T : gTown) (hm : f 2 = nI (tN T)) (hn : tN T ≤ 6) (hR : rowsOf (A 7) T) (hO : okT T) (h lw : Nat) (hlt : h < tN T) (hl3 : lw < 3) (hp8 : okP (f 8)) : Cn l E yX11_valueOf wsX11_valueOf (rmL 1 0 0) [.ref (a 32), .int (nI h), .int (nI lw)] (mC E a f hh A ++ tl) 0 0 (fun v w => v = some (.int (rkF T lw (sF (A 7)) (f 8) h)) ∧ w = mC E a f hh A ++ tl) := by
  refine Cn.of (own := RX11) (cc := cX11_valueOf) (maxL := 3) (ret := (some .int)) (lv := [(0, .ref (a 32)), (1, .int (nI h)), (2, .int (nI lw))]) (by decide) rfl rfl (Nat.le_of_ble_eq_true rfl) rfl ?_
  intro p_ e_ s_ m_ args_ below_ meth_ c_ A_ P_ hp_ F hr_ hnm_
  have hf13_11 : Cond.fieldLink RX11 13 "KeyOnStreetModel" (TX11 7).2.1 (TX11 7).2.2.1 ∈ wsX11_valueOf := by decide +kernel
  have hi11 : ∀ w ∈ u_ws RX11 TX11 32, w ∈ wsX11_valueOf := by decide +kernel
  have hf102_11 : Cond.fieldLink RX11 102 "KeyOnStreetModel" (TX11 8).2.1 (TX11 8).2.2.1 ∈ wsX11_valueOf := by decide +kernel
  have hd_X11_far : yX11_far.cls ≠ "java/lang/invoke/MethodHandle" ∧ yX11_far.cls ≠ "java/lang/invoke/VarHandle" ∧ (parseMethodDescriptor yX11_far.desc).map (fun d => d.parameters.length) = some 2 := by decide +kernel
  refine q_iload_n F 2 dX11_valueOf_0 rfl ?_
  refine q_if_ne F (tgt := 18) dX11_valueOf_1 (by decide) (fun h_1 => ?_) (fun h_1 => ?_)
  · skip
    have hn_1 : lw ≠ 0 := nf_ne_t0 (by omega) h_1
    refine q_iload_n F 2 dX11_valueOf_18 rfl ?_
    refine q_iconst F dX11_valueOf_19 (v := nI 1) (by decide) ?_
    refine q_icmp_ne F (tgt := 44) dX11_valueOf_20 (by decide) (fun h_20 => ?_) (fun h_20 => ?_)
    · skip
      have hn_20 : lw ≠ 1 := nf_ne_t (by omega) (by omega) h_20
      refine q_aload_n F 0 dX11_valueOf_44 rfl ?_
      refine q_get F (ci := 11) (j := 7) (List.mem_append_left _ (List.mem_of_getElem? (i := 0) rfl)) rfl hi11 (by decide) hf13_11 rfl rfl dX11_valueOf_45 ?_
      refine q_bipush F dX11_valueOf_48 (v := nI 8) (by decide) ?_
      refine q_iload_n F 1 dX11_valueOf_50 rfl ?_
      refine q_imul F dX11_valueOf_51 ?_
      refine q_toi (nI (8 * h)) (pk_mul _ _) ?_
      refine q_iconst F dX11_valueOf_52 (v := nI 2) (by decide) ?_
      refine q_iadd F dX11_valueOf_53 ?_
      refine q_toi (nI (8 * h + 2)) (nI_add _ _) ?_
      refine q_iald F (List.mem_append_left _ (List.mem_of_getElem? (i := 2) rfl)) (8 * h + 2) rfl (by omega) (by decide) dX11_valueOf_54 ?_
      refine q_toi (tL T h) ((hR h hlt).2.2.1) ?_
      refine q_iret F hr_ dX11_valueOf_55 (hp_ _ _ ⟨congrArg (fun z => some (Value.int z)) ?_, ?_⟩)
      · first | (obtain rfl : lw = 0 := by omega); rfl | (obtain rfl : lw = 1 := by omega); exact fr_ab hp8 (hO.2 h hlt).2.1 | (obtain rfl : lw = 2 := by omega); rfl
      · rfl
    · skip
      have hn_20 : lw = 1 := nf_ne_f (by omega) (by omega) h_20
      refine q_aload_n F 0 dX11_valueOf_23 rfl ?_
      refine q_get F (ci := 11) (j := 8) (List.mem_append_left _ (List.mem_of_getElem? (i := 0) rfl)) rfl hi11 (by decide) hf102_11 rfl rfl dX11_valueOf_24 ?_
      refine q_aload_n F 0 dX11_valueOf_27 rfl ?_
      refine q_get F (ci := 11) (j := 7) (List.mem_append_left _ (List.mem_of_getElem? (i := 0) rfl)) rfl hi11 (by decide) hf13_11 rfl rfl dX11_valueOf_28 ?_
      refine q_bipush F dX11_valueOf_31 (v := nI 8) (by decide) ?_
      refine q_iload_n F 1 dX11_valueOf_33 rfl ?_
      refine q_imul F dX11_valueOf_34 ?_
      refine q_toi (nI (8 * h)) (pk_mul _ _) ?_
      refine q_iconst F dX11_valueOf_35 (v := nI 1) (by decide) ?_
      refine q_iadd F dX11_valueOf_36 ?_
      refine q_toi (nI (8 * h + 1)) (nI_add _ _) ?_
      refine q_iald F (List.mem_append_left _ (List.mem_of_getElem? (i := 2) rfl)) (8 * h + 1) rfl (by omega) (by decide) dX11_valueOf_37 ?_
      refine q_toi (tP T h) ((hR h hlt).2.1) ?_
      refine q_callS F (As := [.int (f 8), .int (tP T h)]) (rest := []) (c_X11_far l E (mC E a f hh A ++ tl) (f 8) (tP T h)) (List.Perm.refl _) gX11_valueOf_X11_far rfl rfl rfl hd_X11_far ⟨by decide, by decide⟩ rfl (Nat.le_of_ble_eq_true rfl) dX11_valueOf_38 ⟨by decide, by decide⟩ (fun v_ w_ hvw => ?_)
      rw [hvw.1, hvw.2]
      clear hvw
      refine q_at (pc' := 41) (st' := [.int (fr (f 8) (tP T h))]) (ws' := mC E a f hh A ++ tl) (k' := 0) (n' := 0) rfl rfl rfl rfl rfl ?_
      refine q_goto F (tgt := 55) dX11_valueOf_41 (by decide) ?_
      refine q_iret F hr_ dX11_valueOf_55 (hp_ _ _ ⟨congrArg (fun z => some (Value.int z)) ?_, ?_⟩)
      · first | (obtain rfl : lw = 0 := by omega); rfl | (obtain rfl : lw = 1 := by omega); exact fr_ab hp8 (hO.2 h hlt).2.1 | (obtain rfl : lw = 2 := by omega); rfl
      · rfl
  · skip
    have hn_1 : lw = 0 := nf_ne_f0 (by omega) h_1
    refine q_aload_n F 0 dX11_valueOf_4 rfl ?_
    refine q_get F (ci := 11) (j := 7) (List.mem_append_left _ (List.mem_of_getElem? (i := 0) rfl)) rfl hi11 (by decide) hf13_11 rfl rfl dX11_valueOf_5 ?_
    refine q_bipush F dX11_valueOf_8 (v := nI 8) (by decide) ?_
    refine q_iload_n F 1 dX11_valueOf_10 rfl ?_
    refine q_imul F dX11_valueOf_11 ?_
    refine q_toi (nI (8 * h)) (pk_mul _ _) ?_
    refine q_iconst F dX11_valueOf_12 (v := nI 4) (by decide) ?_
    refine q_iadd F dX11_valueOf_13 ?_
    refine q_toi (nI (8 * h + 4)) (nI_add _ _) ?_
    refine q_iald F (List.mem_append_left _ (List.mem_of_getElem? (i := 2) rfl)) (8 * h + 4) rfl (by omega) (by decide) dX11_valueOf_14 ?_
    refine q_goto F (tgt := 55) dX11_valueOf_15 (by decide) ?_
    refine q_iret F hr_ dX11_valueOf_55 (hp_ _ _ ⟨congrArg (fun z => some (Value.int z)) ?_, ?_⟩)
    · first | (obtain rfl : lw = 0 := by omega); rfl | (obtain rfl : lw = 1 := by omega); exact fr_ab hp8 (hO.2 h hlt).2.1 | (obtain rfl : lw = 2 := by omega); rfl
    · rfl

set_option maxHeartbeats 4000000 in
set_option maxRecDepth 100000 in
theorem c_X11_nextOf (l : Launch) (E : gEnv) (a : Nat → Nat) (f : Nat → Int32) (hh : Int64) (A : Nat → Nat → Int32) (tl : va_W) (T : gTown) (hm : f 2 = nI (tN T)) (hn : tN T ≤ 6) (hR : rowsOf (A 7) T) (hO : okT T) (x : Int32) (lw : Nat) (hl3 : lw < 3) (hp8 : okP (f 8)) : Cn l E yX11_nextOf wsX11_nextOf (rmL 2 0 0) [.ref (a 32), .int x, .int (nI lw)] (mC E a f hh A ++ tl) 0 0 (fun v w => v = some (.int (nxR (myM T x) (rkF T lw (sF (A 7)) (f 8)) (tN T)).1) ∧ w = mC E a f hh A ++ tl) := by
  refine Cn.of (own := RX11) (cc := cX11_nextOf) (maxL := 8) (ret := (some .int)) (lv := [(0, .ref (a 32)), (1, .int x), (2, .int (nI lw))]) (by decide) rfl rfl (Nat.le_of_ble_eq_true rfl) rfl ?_
  intro p_ e_ s_ m_ args_ below_ meth_ c_ A_ P_ hp_ F hr_ hnm_
  have hd_X11_mayOpen : yX11_mayOpen.cls = RX11 ∧ yX11_mayOpen.cls ≠ "java/lang/invoke/MethodHandle" ∧ yX11_mayOpen.cls ≠ "java/lang/invoke/VarHandle" ∧ (parseMethodDescriptor yX11_mayOpen.desc).map (fun d => d.parameters.length) = some 1 := by decide +kernel
  have hf67_11 : Cond.fieldLink RX11 67 "KeyOnStreetModel" (TX11 2).2.1 (TX11 2).2.2.1 ∈ wsX11_nextOf := by decide +kernel
  have hi11 : ∀ w ∈ u_ws RX11 TX11 32, w ∈ wsX11_nextOf := by decide +kernel
  have hd_X11_valueOf : yX11_valueOf.cls = RX11 ∧ yX11_valueOf.cls ≠ "java/lang/invoke/MethodHandle" ∧ yX11_valueOf.cls ≠ "java/lang/invoke/VarHandle" ∧ (parseMethodDescriptor yX11_valueOf.desc).map (fun d => d.parameters.length) = some 2 := by decide +kernel
  refine q_aload_n F 0 dX11_nextOf_0 rfl ?_
  refine q_iload_n F 1 dX11_nextOf_1 rfl ?_
  refine q_callV F (ci := 11) (As := [.int x]) (rest := []) (List.mem_append_left _ (List.mem_of_getElem? (i := 0) rfl)) rfl (c_X11_mayOpen l E a f hh A tl T hm hn hR hO x) (List.Perm.refl _) gX11_nextOf_X11_mayOpen rfl rfl rfl hd_X11_mayOpen ⟨by decide, by decide⟩ rfl (Nat.le_of_ble_eq_true rfl) dX11_nextOf_2 ⟨by decide, by decide⟩ (fun v_ w_ hvw => ?_)
  rw [hvw.1, hvw.2]
  clear hvw
  refine q_at (pc' := 5) (st' := [.int (myM T x)]) (ws' := mC E a f hh A ++ tl) (k' := 0) (n' := 0) rfl rfl rfl rfl rfl ?_
  refine q_istore_n F (lv' := [(3, .int (myM T x)), (0, .ref (a 32)), (1, .int x), (2, .int (nI lw))]) dX11_nextOf_5 (by decide) rfl ?_
  refine q_iconst F dX11_nextOf_6 (v := (-1)) (by decide) ?_
  refine q_istore F (lv' := [(4, .int (-1)), (3, .int (myM T x)), (0, .ref (a 32)), (1, .int x), (2, .int (nI lw))]) dX11_nextOf_7 (by decide) rfl ?_
  refine q_iconst F dX11_nextOf_9 (v := nI 0) (by decide) ?_
  refine q_istore F (lv' := [(5, .int (nI 0)), (4, .int (-1)), (3, .int (myM T x)), (0, .ref (a 32)), (1, .int x), (2, .int (nI lw))]) dX11_nextOf_10 (by decide) rfl ?_
  refine q_iconst F dX11_nextOf_12 (v := nI 0) (by decide) ?_
  refine q_istore F (lv' := [(6, .int (nI 0)), (5, .int (nI 0)), (4, .int (-1)), (3, .int (myM T x)), (0, .ref (a 32)), (1, .int x), (2, .int (nI lw))]) dX11_nextOf_13 (by decide) rfl ?_
  have lb15 : ∀ (fu : Nat) (i : Nat) (hi : i ≤ tN T), tN T - i < fu → gW p_ l e_ (rmL 2 0 0) s_ m_ args_ below_ meth_ c_ E A_ 8 (MQ below_ (gQ E A_ P_) args_ s_ 0 0 A_) 15 [(0, .ref (a 32)), (2, .int (nI lw)), (3, .int (myM T x)), (4, .int ((nxR (myM T x) (rkF T lw (sF (A 7)) (f 8)) i).1)), (5, .int ((nxR (myM T x) (rkF T lw (sF (A 7)) (f 8)) i).2)), (6, .int (nI i))] [] (mC E a f hh A ++ tl) 0 0 := by
    intro fu_15
    induction fu_15 with
    | zero => intro i hi hfu; exact absurd hfu (Nat.not_lt_zero _)
    | succ fu_15 ih_15 =>
      intro i hi hfu_15
      refine q_iload F 5 dX11_nextOf_15 rfl ?_
      refine q_aload_n F 0 dX11_nextOf_17 rfl ?_
      refine q_get F (ci := 11) (j := 2) (List.mem_append_left _ (List.mem_of_getElem? (i := 0) rfl)) rfl hi11 (by decide) hf67_11 rfl rfl dX11_nextOf_18 ?_
      refine q_toi (nI (tN T)) (hm) ?_
      refine q_icmp_ge F (tgt := 87) dX11_nextOf_21 (by decide) (fun h_21 => ?_) (fun h_21 => ?_)
      · skip
        have hn_21 : i ≥ (tN T) := nf_ge_t (by omega) (by omega) h_21
        refine q_iload F 3 dX11_nextOf_87 rfl ?_
        refine q_iret F hr_ dX11_nextOf_89 (hp_ _ _ ⟨congrArg (fun z => some (Value.int z)) ?_, ?_⟩)
        · (have e6 : i = tN T := by omega); rw [e6]
        · rfl
      · skip
        have hn_21 : i < (tN T) := nf_ge_f (by omega) (by omega) h_21
        refine q_iload_n F 2 dX11_nextOf_24 rfl ?_
        refine q_iload F 5 dX11_nextOf_25 rfl ?_
        refine q_ishr F dX11_nextOf_27 ?_
        refine q_iconst F dX11_nextOf_28 (v := nI 1) (by decide) ?_
        refine q_iand F dX11_nextOf_29 ?_
        refine q_iconst F dX11_nextOf_30 (v := nI 1) (by decide) ?_
        refine q_icmp_ne F (tgt := 81) dX11_nextOf_31 (by decide) (fun h_31 => ?_) (fun h_31 => ?_)
        · skip
          refine q_iinc F 5 (v := nI (i + 1)) (lv' := [(6, .int (nI (i + 1))), (0, .ref (a 32)), (2, .int (nI lw)), (3, .int (myM T x)), (4, .int ((nxR (myM T x) (rkF T lw (sF (A 7)) (f 8)) i).1)), (5, .int ((nxR (myM T x) (rkF T lw (sF (A 7)) (f 8)) i).2))]) dX11_nextOf_81 rfl (nI_1 _) (by decide) rfl ?_
          refine q_goto F (tgt := 15) dX11_nextOf_84 (by decide) ?_
          refine q_lv [1, 2, 3, 4, 5, 0] (lv' := [(0, .ref (a 32)), (2, .int (nI lw)), (3, .int (myM T x)), (4, .int ((nxR (myM T x) (rkF T lw (sF (A 7)) (f 8)) i).1)), (5, .int ((nxR (myM T x) (rkF T lw (sF (A 7)) (f 8)) i).2)), (6, .int (nI (i + 1)))]) rfl ?_
          refine q_to (lv' := [(0, .ref (a 32)), (2, .int (nI lw)), (3, .int (myM T x)), (4, .int ((nxR (myM T x) (rkF T lw (sF (A 7)) (f 8)) (i + 1)).1)), (5, .int ((nxR (myM T x) (rkF T lw (sF (A 7)) (f 8)) (i + 1)).2)), (6, .int (nI (i + 1)))]) (st' := []) (ws' := mC E a f hh A ++ tl) (cE (vE (rfl)) (cE (vE (rfl)) (cE (vE (rfl)) (cE (vE (congrArg Value.int (by first | rfl | (simp [nxR, *]; done) | (simp only [nxR, if_pos h_31]; simp_all)))) (cE (vE (congrArg Value.int (by first | rfl | (simp [nxR, *]; done) | (simp only [nxR, if_pos h_31]; simp_all)))) (cE (vE (rfl)) rfl)))))) rfl rfl ?_
          exact ih_15 (i + 1) (by omega) (by omega)
        · skip
          refine q_aload_n F 0 dX11_nextOf_34 rfl ?_
          refine q_iload F 5 dX11_nextOf_35 rfl ?_
          refine q_iload_n F 1 dX11_nextOf_37 rfl ?_
          refine q_callV F (ci := 11) (As := [.int (nI i), .int (nI lw)]) (rest := []) (List.mem_append_left _ (List.mem_of_getElem? (i := 0) rfl)) rfl (c_X11_valueOf l E a f hh A tl T hm hn hR hO i lw (by omega) hl3 hp8) (List.Perm.refl _) gX11_nextOf_X11_valueOf rfl rfl rfl hd_X11_valueOf ⟨by decide, by decide⟩ rfl (Nat.le_of_ble_eq_true rfl) dX11_nextOf_38 ⟨by decide, by decide⟩ (fun v_ w_ hvw => ?_)
          rw [hvw.1, hvw.2]
          clear hvw
          refine q_at (pc' := 41) (st' := [.int (rkF T lw (sF (A 7)) (f 8) i)]) (ws' := mC E a f hh A ++ tl) (k' := 0) (n' := 0) rfl rfl rfl rfl rfl ?_
          refine q_istore F (lv' := [(7, .int (rkF T lw (sF (A 7)) (f 8) i)), (0, .ref (a 32)), (2, .int (nI lw)), (3, .int (myM T x)), (4, .int ((nxR (myM T x) (rkF T lw (sF (A 7)) (f 8)) i).1)), (5, .int ((nxR (myM T x) (rkF T lw (sF (A 7)) (f 8)) i).2)), (6, .int (nI i))]) dX11_nextOf_41 (by decide) rfl ?_
          refine q_iload F 4 dX11_nextOf_43 rfl ?_
          refine q_iconst F dX11_nextOf_45 (v := (-1)) (by decide) ?_
          refine q_icmp_eq F (tgt := 56) dX11_nextOf_46 (by decide) (fun h_46 => ?_) (fun h_46 => ?_)
          · skip
            refine q_iload F 6 dX11_nextOf_56 rfl ?_
            refine q_goto F (tgt := 63) dX11_nextOf_58 (by decide) ?_
            refine q_istore F (lv' := [(4, .int (nI i)), (7, .int (rkF T lw (sF (A 7)) (f 8) i)), (0, .ref (a 32)), (2, .int (nI lw)), (3, .int (myM T x)), (5, .int ((nxR (myM T x) (rkF T lw (sF (A 7)) (f 8)) i).2)), (6, .int (nI i))]) dX11_nextOf_63 (by decide) rfl ?_
            refine q_iload F 0 dX11_nextOf_65 rfl ?_
            refine q_iload F 6 dX11_nextOf_67 rfl ?_
            refine q_icmp_ne F (tgt := 77) dX11_nextOf_69 (by decide) (fun h_69 => ?_) (fun h_69 => ?_)
            · skip
              have hn_69 : i ≠ i := nf_ne_t (by omega) (by omega) h_69
              exact absurd rfl h_69
            · skip
              have hn_69 : i = i := nf_ne_f (by omega) (by omega) h_69
              refine q_iload F 1 dX11_nextOf_72 rfl ?_
              refine q_goto F (tgt := 79) dX11_nextOf_74 (by decide) ?_
              refine q_istore F (lv' := [(5, .int (rkF T lw (sF (A 7)) (f 8) i)), (4, .int (nI i)), (7, .int (rkF T lw (sF (A 7)) (f 8) i)), (0, .ref (a 32)), (2, .int (nI lw)), (3, .int (myM T x)), (6, .int (nI i))]) dX11_nextOf_79 (by decide) rfl ?_
              refine q_iinc F 6 (v := nI (i + 1)) (lv' := [(6, .int (nI (i + 1))), (5, .int (rkF T lw (sF (A 7)) (f 8) i)), (4, .int (nI i)), (7, .int (rkF T lw (sF (A 7)) (f 8) i)), (0, .ref (a 32)), (2, .int (nI lw)), (3, .int (myM T x))]) dX11_nextOf_81 rfl (nI_1 _) (by decide) rfl ?_
              refine q_goto F (tgt := 15) dX11_nextOf_84 (by decide) ?_
              refine q_lv [4, 5, 6, 2, 1, 0] (lv' := [(0, .ref (a 32)), (2, .int (nI lw)), (3, .int (myM T x)), (4, .int (nI i)), (5, .int (rkF T lw (sF (A 7)) (f 8) i)), (6, .int (nI (i + 1)))]) rfl ?_
              refine q_to (lv' := [(0, .ref (a 32)), (2, .int (nI lw)), (3, .int (myM T x)), (4, .int ((nxR (myM T x) (rkF T lw (sF (A 7)) (f 8)) (i + 1)).1)), (5, .int ((nxR (myM T x) (rkF T lw (sF (A 7)) (f 8)) (i + 1)).2)), (6, .int (nI (i + 1)))]) (st' := []) (ws' := mC E a f hh A ++ tl) (cE (vE (rfl)) (cE (vE (rfl)) (cE (vE (rfl)) (cE (vE (congrArg Value.int (by first | rfl | (simp [nxR, *]; done) | (simp only [nxR, if_pos h_31]; simp_all)))) (cE (vE (congrArg Value.int (by first | rfl | (simp [nxR, *]; done) | (simp only [nxR, if_pos h_31]; simp_all)))) (cE (vE (rfl)) rfl)))))) rfl rfl ?_
              exact ih_15 (i + 1) (by omega) (by omega)
          · skip
            refine q_iload F 0 dX11_nextOf_49 rfl ?_
            refine q_iload F 5 dX11_nextOf_51 rfl ?_
            refine q_icmp_ge F (tgt := 61) dX11_nextOf_53 (by decide) (fun h_53 => ?_) (fun h_53 => ?_)
            · skip
              have hz_53 := Int32.not_lt.mpr h_53
              refine q_iload F 4 dX11_nextOf_61 rfl ?_
              refine q_istore F (lv' := [(4, .int ((nxR (myM T x) (rkF T lw (sF (A 7)) (f 8)) i).1)), (7, .int (rkF T lw (sF (A 7)) (f 8) i)), (0, .ref (a 32)), (2, .int (nI lw)), (3, .int (myM T x)), (5, .int ((nxR (myM T x) (rkF T lw (sF (A 7)) (f 8)) i).2)), (6, .int (nI i))]) dX11_nextOf_63 (by decide) rfl ?_
              refine q_iload F 0 dX11_nextOf_65 rfl ?_
              refine q_iload F 6 dX11_nextOf_67 rfl ?_
              refine q_icmp_ne F (tgt := 77) dX11_nextOf_69 (by decide) (fun h_69 => ?_) (fun h_69 => ?_)
              · skip
                refine q_iload F 5 dX11_nextOf_77 rfl ?_
                refine q_istore F (lv' := [(5, .int ((nxR (myM T x) (rkF T lw (sF (A 7)) (f 8)) i).2)), (4, .int ((nxR (myM T x) (rkF T lw (sF (A 7)) (f 8)) i).1)), (7, .int (rkF T lw (sF (A 7)) (f 8) i)), (0, .ref (a 32)), (2, .int (nI lw)), (3, .int (myM T x)), (6, .int (nI i))]) dX11_nextOf_79 (by decide) rfl ?_
                refine q_iinc F 6 (v := nI (i + 1)) (lv' := [(6, .int (nI (i + 1))), (5, .int ((nxR (myM T x) (rkF T lw (sF (A 7)) (f 8)) i).2)), (4, .int ((nxR (myM T x) (rkF T lw (sF (A 7)) (f 8)) i).1)), (7, .int (rkF T lw (sF (A 7)) (f 8) i)), (0, .ref (a 32)), (2, .int (nI lw)), (3, .int (myM T x))]) dX11_nextOf_81 rfl (nI_1 _) (by decide) rfl ?_
                refine q_goto F (tgt := 15) dX11_nextOf_84 (by decide) ?_
                refine q_lv [4, 5, 6, 2, 1, 0] (lv' := [(0, .ref (a 32)), (2, .int (nI lw)), (3, .int (myM T x)), (4, .int ((nxR (myM T x) (rkF T lw (sF (A 7)) (f 8)) i).1)), (5, .int ((nxR (myM T x) (rkF T lw (sF (A 7)) (f 8)) i).2)), (6, .int (nI (i + 1)))]) rfl ?_
                refine q_to (lv' := [(0, .ref (a 32)), (2, .int (nI lw)), (3, .int (myM T x)), (4, .int ((nxR (myM T x) (rkF T lw (sF (A 7)) (f 8)) (i + 1)).1)), (5, .int ((nxR (myM T x) (rkF T lw (sF (A 7)) (f 8)) (i + 1)).2)), (6, .int (nI (i + 1)))]) (st' := []) (ws' := mC E a f hh A ++ tl) (cE (vE (rfl)) (cE (vE (rfl)) (cE (vE (rfl)) (cE (vE (congrArg Value.int (by first | rfl | (simp [nxR, *]; done) | (simp only [nxR, if_pos h_31]; simp_all)))) (cE (vE (congrArg Value.int (by first | rfl | (simp [nxR, *]; done) | (simp only [nxR, if_pos h_31]; simp_all)))) (cE (vE (rfl)) rfl)))))) rfl rfl ?_
                exact ih_15 (i + 1) (by omega) (by omega)
              · skip
                exact absurd h_69 (nxR_ne _ _ (by omega))
            · skip
              have hz_53 := Int32.not_le.mp h_53
              refine q_iload F 6 dX11_nextOf_56 rfl ?_
              refine q_goto F (tgt := 63) dX11_nextOf_58 (by decide) ?_
              refine q_istore F (lv' := [(4, .int (nI i)), (7, .int (rkF T lw (sF (A 7)) (f 8) i)), (0, .ref (a 32)), (2, .int (nI lw)), (3, .int (myM T x)), (5, .int ((nxR (myM T x) (rkF T lw (sF (A 7)) (f 8)) i).2)), (6, .int (nI i))]) dX11_nextOf_63 (by decide) rfl ?_
              refine q_iload F 0 dX11_nextOf_65 rfl ?_
              refine q_iload F 6 dX11_nextOf_67 rfl ?_
              refine q_icmp_ne F (tgt := 77) dX11_nextOf_69 (by decide) (fun h_69 => ?_) (fun h_69 => ?_)
              · skip
                have hn_69 : i ≠ i := nf_ne_t (by omega) (by omega) h_69
                exact absurd rfl h_69
              · skip
                have hn_69 : i = i := nf_ne_f (by omega) (by omega) h_69
                refine q_iload F 1 dX11_nextOf_72 rfl ?_
                refine q_goto F (tgt := 79) dX11_nextOf_74 (by decide) ?_
                refine q_istore F (lv' := [(5, .int (rkF T lw (sF (A 7)) (f 8) i)), (4, .int (nI i)), (7, .int (rkF T lw (sF (A 7)) (f 8) i)), (0, .ref (a 32)), (2, .int (nI lw)), (3, .int (myM T x)), (6, .int (nI i))]) dX11_nextOf_79 (by decide) rfl ?_
                refine q_iinc F 6 (v := nI (i + 1)) (lv' := [(6, .int (nI (i + 1))), (5, .int (rkF T lw (sF (A 7)) (f 8) i)), (4, .int (nI i)), (7, .int (rkF T lw (sF (A 7)) (f 8) i)), (0, .ref (a 32)), (2, .int (nI lw)), (3, .int (myM T x))]) dX11_nextOf_81 rfl (nI_1 _) (by decide) rfl ?_
                refine q_goto F (tgt := 15) dX11_nextOf_84 (by decide) ?_
                refine q_lv [4, 5, 6, 2, 1, 0] (lv' := [(0, .ref (a 32)), (2, .int (nI lw)), (3, .int (myM T x)), (4, .int (nI i)), (5, .int (rkF T lw (sF (A 7)) (f 8) i)), (6, .int (nI (i + 1)))]) rfl ?_
                refine q_to (lv' := [(0, .ref (a 32)), (2, .int (nI lw)), (3, .int (myM T x)), (4, .int ((nxR (myM T x) (rkF T lw (sF (A 7)) (f 8)) (i + 1)).1)), (5, .int ((nxR (myM T x) (rkF T lw (sF (A 7)) (f 8)) (i + 1)).2)), (6, .int (nI (i + 1)))]) (st' := []) (ws' := mC E a f hh A ++ tl) (cE (vE (rfl)) (cE (vE (rfl)) (cE (vE (rfl)) (cE (vE (congrArg Value.int (by first | rfl | (simp [nxR, *]; done) | (simp only [nxR, if_pos h_31]; simp_all)))) (cE (vE (congrArg Value.int (by first | rfl | (simp [nxR, *]; done) | (simp only [nxR, if_pos h_31]; simp_all)))) (cE (vE (rfl)) rfl)))))) rfl rfl ?_
                exact ih_15 (i + 1) (by omega) (by omega)
  refine q_lv [4, 6, 3, 2, 1, 0] (lv' := [(0, .ref (a 32)), (2, .int (nI lw)), (3, .int (myM T x)), (4, .int (-1)), (5, .int (nI 0)), (6, .int (nI 0))]) rfl ?_
  refine q_to (lv' := [(0, .ref (a 32)), (2, .int (nI lw)), (3, .int (myM T x)), (4, .int ((nxR (myM T x) (rkF T lw (sF (A 7)) (f 8)) 0).1)), (5, .int ((nxR (myM T x) (rkF T lw (sF (A 7)) (f 8)) 0).2)), (6, .int (nI 0))]) (st' := []) (ws' := mC E a f hh A ++ tl) (cE (vE (rfl)) (cE (vE (rfl)) (cE (vE (rfl)) (cE (vE (congrArg Value.int (by first | rfl | (simp [nxR, *]; done) | (simp only [nxR, if_pos h_31]; simp_all)))) (cE (vE (congrArg Value.int (by first | rfl | (simp [nxR, *]; done) | (simp only [nxR, if_pos h_31]; simp_all)))) (cE (vE (rfl)) rfl)))))) rfl rfl ?_
  exact lb15 (tN T - 0 + 1) 0 (by omega) (Nat.lt_succ_self _)
set_option maxHeartbeats 4000000 in
set_option maxRecDepth 100000 in
theorem c_X11_goesBy (l : Launch) (E : gEnv) (a : Nat → Nat) (f : Nat → Int32) (hh : Int64) (A : Nat → Nat → Int32) (tl : va_W) (T : gTown) (hm : f 2 = nI (tN T)) (hn : tN T ≤ 6) (hR : rowsOf (A 7) T) (hO : okT T) (b : Nat → Bool) (hb : ∀ j, b j = true → j < tN T) (lw : Nat) (hl3 : lw < 3) (hp8 : okP (f 8)) : Cn l E yX11_goesBy wsX11_goesBy (rmL 3 0 0) [.ref (a 32), .int (wb b 6), .int (nI lw)] (mC E a f hh A ++ tl) 0 0 (fun v w => v = some (.int (goR T lw (sF (A 7)) 6 (b, f 8, f 9, f 10, nI 0, fun _ => (-1))).2.2.2.2.1) ∧ w = mC E a (upd (upd (upd f 8 (goR T lw (sF (A 7)) 6 (b, f 8, f 9, f 10, nI 0, fun _ => (-1))).2.1) 9 (goR T lw (sF (A 7)) 6 (b, f 8, f 9, f 10, nI 0, fun _ => (-1))).2.2.1) 10 (goR T lw (sF (A 7)) 6 (b, f 8, f 9, f 10, nI 0, fun _ => (-1))).2.2.2.1) hh (va_up A 11 (goR T lw (sF (A 7)) 6 (b, f 8, f 9, f 10, nI 0, fun _ => (-1))).2.2.2.2.2) ++ tl) := by
  refine Cn.of (own := RX11) (cc := cX11_goesBy) (maxL := 6) (ret := (some .int)) (lv := [(0, .ref (a 32)), (1, .int (wb b 6)), (2, .int (nI lw))]) (by decide) rfl rfl (Nat.le_of_ble_eq_true rfl) rfl ?_
  intro p_ e_ s_ m_ args_ below_ meth_ c_ A_ P_ hp_ F hr_ hnm_
  have hd_X11_nextOf : yX11_nextOf.cls = RX11 ∧ yX11_nextOf.cls ≠ "java/lang/invoke/MethodHandle" ∧ yX11_nextOf.cls ≠ "java/lang/invoke/VarHandle" ∧ (parseMethodDescriptor yX11_nextOf.desc).map (fun d => d.parameters.length) = some 2 := by decide +kernel
  have hd_X11_opens : yX11_opens.cls = RX11 ∧ yX11_opens.cls ≠ "java/lang/invoke/MethodHandle" ∧ yX11_opens.cls ≠ "java/lang/invoke/VarHandle" ∧ (parseMethodDescriptor yX11_opens.desc).map (fun d => d.parameters.length) = some 1 := by decide +kernel
  have hf16_11 : Cond.fieldLink RX11 16 "KeyOnStreetModel" (TX11 11).2.1 (TX11 11).2.2.1 ∈ wsX11_goesBy := by decide +kernel
  have hi11 : ∀ w ∈ u_ws RX11 TX11 32, w ∈ wsX11_goesBy := by decide +kernel
  have hf105_11 : Cond.fieldLink RX11 105 "KeyOnStreetModel" (TX11 9).2.1 (TX11 9).2.2.1 ∈ wsX11_goesBy := by decide +kernel
  refine q_iload_n F 1 dX11_goesBy_0 rfl ?_
  refine q_istore_n F (lv' := [(3, .int (wb b 6)), (0, .ref (a 32)), (1, .int (wb b 6)), (2, .int (nI lw))]) dX11_goesBy_1 (by decide) rfl ?_
  refine q_iconst F dX11_goesBy_2 (v := nI 0) (by decide) ?_
  refine q_istore F (lv' := [(4, .int (nI 0)), (3, .int (wb b 6)), (0, .ref (a 32)), (1, .int (wb b 6)), (2, .int (nI lw))]) dX11_goesBy_3 (by decide) rfl ?_
  refine q_iconst F dX11_goesBy_5 (v := nI 0) (by decide) ?_
  refine q_istore F (lv' := [(5, .int (nI 0)), (4, .int (nI 0)), (3, .int (wb b 6)), (0, .ref (a 32)), (1, .int (wb b 6)), (2, .int (nI lw))]) dX11_goesBy_6 (by decide) rfl ?_
  have lb8 : ∀ (fu : Nat) (i : Nat) (hi : i ≤ 6), 6 - i < fu → gW p_ l e_ (rmL 3 0 0) s_ m_ args_ below_ meth_ c_ E A_ 6 (MQ below_ (gQ E A_ P_) args_ s_ 0 0 A_) 8 [(0, .ref (a 32)), (2, .int (nI lw)), (3, .int (wb b 6)), (4, .int (nI 0)), (5, .int (nI i))] [] (mC E a f hh (va_up A 11 (filc (-1) (A 11) i)) ++ tl) 0 0 := by
    intro fu_8
    induction fu_8 with
    | zero => intro i hi hfu; exact absurd hfu (Nat.not_lt_zero _)
    | succ fu_8 ih_8 =>
      intro i hi hfu_8
      refine q_iload F 4 dX11_goesBy_8 rfl ?_
      refine q_bipush F dX11_goesBy_10 (v := nI 6) (by decide) ?_
      refine q_icmp_ge F (tgt := 29) dX11_goesBy_12 (by decide) (fun h_12 => ?_) (fun h_12 => ?_)
      · skip
        have hn_12 : i ≥ 6 := nf_ge_t (by omega) (by omega) h_12
        obtain rfl : i = 6 := by omega
        refine q_mB (va_up A 11 (fun _ => (-1))) (by intro i j hj; by_cases e : i = 11 <;> simp [va_up, filc, e] <;> (intro z; subst e; simp [mLen] at hj; omega)) ?_
        have lb29 : ∀ (fu : Nat) (i : Nat) (b9 : Nat → Bool) (p9 : Int32) (m9 : Int32) (u9 : Int32) (l9 : Int32) (ib9 : Nat → Int32) (hl : goR T lw (sF (A 7)) (6 - i) (b9, p9, m9, u9, l9, ib9) = goR T lw (sF (A 7)) 6 (b, f 8, f 9, f 10, nI 0, fun _ => (-1))) (hc : cnt b9 6 ≤ 6 - i) (hs : ∀ j, b9 j = true → j < tN T) (hp9 : okP p9), cnt b9 6 < fu → gW p_ l e_ (rmL 3 0 0) s_ m_ args_ below_ meth_ c_ E A_ 6 (MQ below_ (gQ E A_ P_) args_ s_ 0 0 A_) 29 [(0, .ref (a 32)), (2, .int (nI lw)), (3, .int (wb b9 6)), (4, .int l9)] [] (mC E a (upd (upd (upd f 8 p9) 9 m9) 10 u9) hh (va_up A 11 ib9) ++ tl) 0 0 := by
          intro fu_29
          induction fu_29 with
          | zero => intro i b9 p9 m9 u9 l9 ib9 hl hc hs hp9 hfu; exact absurd hfu (Nat.not_lt_zero _)
          | succ fu_29 ih_29 =>
            intro i b9 p9 m9 u9 l9 ib9 hl hc hs hp9 hfu_29
            refine q_iload_n F 2 dX11_goesBy_29 rfl ?_
            refine q_if_eq F (tgt := 75) dX11_goesBy_30 (by decide) (fun h_30 => ?_) (fun h_30 => ?_)
            · skip
              rw [goR_0 (by exact h_30)] at hl
              refine q_iload F 3 dX11_goesBy_75 rfl ?_
              refine q_iret F hr_ dX11_goesBy_77 (hp_ _ _ ⟨congrArg (fun z => some (Value.int z)) ?_, ?_⟩)
              · rw [← hl]
              · rw [← hl]
            · skip
              obtain ⟨j, hj, ej, hbj⟩ := nxS_in (lw := lw) (s := sF (A 7)) (p := p9) hn hs h_30
              refine q_aload_n F 0 dX11_goesBy_33 rfl ?_
              refine q_iload_n F 2 dX11_goesBy_34 rfl ?_
              refine q_iload_n F 1 dX11_goesBy_35 rfl ?_
              refine q_callV F (ci := 11) (As := [.int (wb b9 6), .int (nI lw)]) (rest := []) (List.mem_append_left _ (List.mem_of_getElem? (i := 0) rfl)) rfl (c_X11_nextOf l E a (upd (upd (upd f 8 p9) 9 m9) 10 u9) hh (va_up A 11 ib9) tl T hm hn hR hO (wb b9 6) lw hl3 hp9) (List.Perm.refl _) gX11_goesBy_X11_nextOf rfl rfl rfl hd_X11_nextOf ⟨by decide, by decide⟩ rfl (Nat.le_of_ble_eq_true rfl) dX11_goesBy_36 ⟨by decide, by decide⟩ (fun v_ w_ hvw => ?_)
              rw [hvw.1, hvw.2]
              clear hvw
              refine q_at (pc' := 39) (st' := [.int ((nxR (myM T (wb b9 6)) (rkF T lw (sF (A 7)) p9) (tN T)).1)]) (ws' := mC E a (upd (upd (upd f 8 p9) 9 m9) 10 u9) hh (va_up A 11 ib9) ++ tl) (k' := 0) (n' := 0) rfl rfl rfl rfl rfl ?_
              refine q_toi (nI j) (by exact ej) ?_
              refine q_istore F (lv' := [(5, .int (nI j)), (0, .ref (a 32)), (2, .int (nI lw)), (3, .int (wb b9 6)), (4, .int l9)]) dX11_goesBy_39 (by decide) rfl ?_
              refine q_iload F 4 dX11_goesBy_41 rfl ?_
              refine q_aload_n F 1 dX11_goesBy_43 rfl ?_
              refine q_iload F 0 dX11_goesBy_44 rfl ?_
              refine q_callV F (ci := 11) (As := [.int (nI j)]) (rest := [.int l9]) (List.mem_append_left _ (List.mem_of_getElem? (i := 0) rfl)) rfl (c_X11_opens l E a (upd (upd (upd f 8 p9) 9 m9) 10 u9) hh (va_up A 11 ib9) tl T hm hn hR hO j (by omega) hp9) (List.Perm.refl _) gX11_goesBy_X11_opens rfl rfl rfl hd_X11_opens ⟨by decide, by decide⟩ rfl (Nat.le_of_ble_eq_true rfl) dX11_goesBy_46 ⟨by decide, by decide⟩ (fun v_ w_ hvw => ?_)
              rw [hvw.1, hvw.2]
              clear hvw
              refine q_at (pc' := 49) (st' := [.int (ltA (tK T j) (tL T j) (tE T j) (brg (tK T j) (tP T j) p9 m9 u9)), .int l9]) (ws' := mC E a (upd (upd (upd f 8 (tP T j)) 9 (brg (tK T j) (tP T j) p9 m9 u9)) 10 (kpu (tK T j) (brg (tK T j) (tP T j) p9 m9 u9))) hh (va_up A 11 ib9) ++ tl) (k' := 0) (n' := 0) rfl rfl rfl rfl rfl ?_
              refine q_iadd F dX11_goesBy_49 ?_
              refine q_istore F (lv' := [(4, .int (l9 + (ltA (tK T j) (tL T j) (tE T j) (brg (tK T j) (tP T j) p9 m9 u9)))), (5, .int (nI j)), (0, .ref (a 32)), (2, .int (nI lw)), (3, .int (wb b9 6))]) dX11_goesBy_50 (by decide) rfl ?_
              refine q_aload_n F 2 dX11_goesBy_52 rfl ?_
              refine q_get F (ci := 11) (j := 11) (List.mem_append_left _ (List.mem_of_getElem? (i := 0) rfl)) rfl hi11 (by decide) hf16_11 rfl rfl dX11_goesBy_53 ?_
              refine q_iload F 1 dX11_goesBy_56 rfl ?_
              refine q_aload_n F 2 dX11_goesBy_58 rfl ?_
              refine q_get F (ci := 11) (j := 9) (List.mem_append_left _ (List.mem_of_getElem? (i := 0) rfl)) rfl hi11 (by decide) hf105_11 rfl rfl dX11_goesBy_59 ?_
              refine q_iast F 3 rfl j rfl (by omega) (by decide) dX11_goesBy_62 (ws' := mC E a (upd (upd (upd f 8 (tP T j)) 9 (brg (tK T j) (tP T j) p9 m9 u9)) 10 (kpu (tK T j) (brg (tK T j) (tP T j) p9 m9 u9))) hh (va_up A 11 (upd ib9 j (brg (tK T j) (tP T j) p9 m9 u9))) ++ tl) rfl ?_
              refine q_iload_n F 4 dX11_goesBy_63 rfl ?_
              refine q_iconst F dX11_goesBy_64 (v := nI 1) (by decide) ?_
              refine q_iload F 1 dX11_goesBy_65 rfl ?_
              refine q_ishl F dX11_goesBy_67 ?_
              refine q_iconst F dX11_goesBy_68 (v := (-1)) (by decide) ?_
              refine q_ixor F dX11_goesBy_69 ?_
              refine q_iand F dX11_goesBy_70 ?_
              have hcc := cnt_clr hbj (show j < 6 by omega)
              refine q_toi (wb (clr b9 j) 6) (wb_clr b9 (by omega)) ?_
              refine q_istore_n F (lv' := [(3, .int (wb (clr b9 j) 6)), (4, .int (l9 + (ltA (tK T j) (tL T j) (tE T j) (brg (tK T j) (tP T j) p9 m9 u9)))), (5, .int (nI j)), (0, .ref (a 32)), (2, .int (nI lw))]) dX11_goesBy_71 (by decide) rfl ?_
              refine q_goto F (tgt := 29) dX11_goesBy_72 (by decide) ?_
              refine q_lv [3, 4, 0, 1] (lv' := [(0, .ref (a 32)), (2, .int (nI lw)), (3, .int (wb (clr b9 j) 6)), (4, .int (l9 + (ltA (tK T j) (tL T j) (tE T j) (brg (tK T j) (tP T j) p9 m9 u9))))]) rfl ?_
              refine q_to (lv' := [(0, .ref (a 32)), (2, .int (nI lw)), (3, .int (wb (clr b9 j) 6)), (4, .int (l9 + (ltA (tK T j) (tL T j) (tE T j) (brg (tK T j) (tP T j) p9 m9 u9))))]) (st' := []) (ws' := mC E a (upd (upd (upd f 8 (tP T j)) 9 (brg (tK T j) (tP T j) p9 m9 u9)) 10 (kpu (tK T j) (brg (tK T j) (tP T j) p9 m9 u9))) hh (va_up A 11 (upd ib9 j (brg (tK T j) (tP T j) p9 m9 u9))) ++ tl) rfl rfl rfl ?_
              exact ih_29 (i + 1) (clr b9 j) (tP T j) (brg (tK T j) (tP T j) p9 m9 u9) (kpu (tK T j) (brg (tK T j) (tP T j) p9 m9 u9)) (l9 + (ltA (tK T j) (tL T j) (tE T j) (brg (tK T j) (tP T j) p9 m9 u9))) (upd ib9 j (brg (tK T j) (tP T j) p9 m9 u9)) (by rw [← hl, show 6 - i = 6 - (i + 1) + 1 by omega, goR, if_neg h_30]; show _ = goR T lw (sF (A 7)) (6 - (i + 1)) (stpR T (nxS T lw (sF (A 7)) b9 p9).toNatClampNeg (b9, p9, m9, u9, l9, ib9)); rw [ej, nI_clamp (by omega)]; rfl) (by have := cnt_clr hbj (show j < 6 by omega); omega) (fun z hz => hs z (by simp only [clr, Bool.and_eq_true] at hz; exact hz.1)) ((hO.2 j hj).2.1) (by omega)
        refine q_lv [0, 1, 2, 3] (lv' := [(0, .ref (a 32)), (2, .int (nI lw)), (3, .int (wb b 6)), (4, .int (nI 0))]) rfl ?_
        refine q_to (lv' := [(0, .ref (a 32)), (2, .int (nI lw)), (3, .int (wb b 6)), (4, .int (nI 0))]) (st' := []) (ws' := mC E a (upd (upd (upd f 8 (f 8)) 9 (f 9)) 10 (f 10)) hh (va_up A 11 (fun _ => (-1))) ++ tl) rfl rfl (by rfl) ?_
        exact lb29 (cnt b 6 + 1) 0 b (f 8) (f 9) (f 10) (nI 0) (fun _ => (-1)) (rfl) (cnt_le b 6) (hb) (hp8) (Nat.lt_succ_self _)
      · skip
        have hn_12 : i < 6 := nf_ge_f (by omega) (by omega) h_12
        refine q_aload_n F 0 dX11_goesBy_15 rfl ?_
        refine q_get F (ci := 11) (j := 11) (List.mem_append_left _ (List.mem_of_getElem? (i := 0) rfl)) rfl hi11 (by decide) hf16_11 rfl rfl dX11_goesBy_16 ?_
        refine q_iload F 4 dX11_goesBy_19 rfl ?_
        refine q_iconst F dX11_goesBy_21 (v := (-1)) (by decide) ?_
        refine q_iast F 3 rfl i rfl (by omega) (by decide) dX11_goesBy_22 (ws' := mC E a f hh (va_up A 11 (upd (filc (-1) (A 11) i) i (-1))) ++ tl) rfl ?_
        refine q_iinc F 4 (v := nI (i + 1)) (lv' := [(5, .int (nI (i + 1))), (0, .ref (a 32)), (2, .int (nI lw)), (3, .int (wb b 6)), (4, .int (nI 0))]) dX11_goesBy_23 rfl (nI_1 _) (by decide) rfl ?_
        refine q_goto F (tgt := 8) dX11_goesBy_26 (by decide) ?_
        refine q_lv [1, 2, 3, 4, 0] (lv' := [(0, .ref (a 32)), (2, .int (nI lw)), (3, .int (wb b 6)), (4, .int (nI 0)), (5, .int (nI (i + 1)))]) rfl ?_
        refine q_to (lv' := [(0, .ref (a 32)), (2, .int (nI lw)), (3, .int (wb b 6)), (4, .int (nI 0)), (5, .int (nI (i + 1)))]) (st' := []) (ws' := mC E a f hh (va_up A 11 (filc (-1) (A 11) (i + 1))) ++ tl) rfl rfl (by simp only [filc_s]) ?_
        exact ih_8 (i + 1) (by omega) (by omega)
  refine q_lv [3, 5, 2, 1, 0] (lv' := [(0, .ref (a 32)), (2, .int (nI lw)), (3, .int (wb b 6)), (4, .int (nI 0)), (5, .int (nI 0))]) rfl ?_
  refine q_to (lv' := [(0, .ref (a 32)), (2, .int (nI lw)), (3, .int (wb b 6)), (4, .int (nI 0)), (5, .int (nI 0))]) (st' := []) (ws' := mC E a f hh (va_up A 11 (filc (-1) (A 11) 0)) ++ tl) rfl rfl (by simp only [filc_0]; rfl) ?_
  exact lb8 (6 - 0 + 1) 0 (by omega) (Nat.lt_succ_self _)
set_option maxHeartbeats 4000000 in
set_option maxRecDepth 100000 in
theorem c_X11_letter (l : Launch) (E : gEnv) (a : Nat → Nat) (f : Nat → Int32) (hh : Int64) (A : Nat → Nat → Int32) (tl : va_W) (pm : Nat) (h1 : f 1 = nI pm) (hpm : pm ≤ 30) (x : Int32) : Cn l E yX11_letter wsX11_letter (rmL 1 0 0) [.ref (a 32), .int x] (mC E a f hh A ++ tl) 0 0 (fun v w => v = some (.int (letM f A x).1) ∧ w = mC E a ((letM f A x).2.1) hh ((letM f A x).2.2) ++ tl) := by
  refine Cn.of (own := RX11) (cc := cX11_letter) (maxL := 2) (ret := (some .int)) (lv := [(0, .ref (a 32)), (1, .int x)]) (by decide) rfl rfl (Nat.le_of_ble_eq_true rfl) rfl ?_
  intro p_ e_ s_ m_ args_ below_ meth_ c_ A_ P_ hp_ F hr_ hnm_
  have hk44 : Cond.constantLong RX11 44 (126) ∈ wsX11_letter := by decide +kernel
  have hd_X11_in : yX11_in.cls ≠ "java/lang/invoke/MethodHandle" ∧ yX11_in.cls ≠ "java/lang/invoke/VarHandle" ∧ (parseMethodDescriptor yX11_in.desc).map (fun d => d.parameters.length) = some 3 := by decide +kernel
  have hf50_11 : Cond.fieldLink RX11 50 "KeyOnStreetModel" (TX11 1).2.1 (TX11 1).2.2.1 ∈ wsX11_letter := by decide +kernel
  have hi11 : ∀ w ∈ u_ws RX11 TX11 32, w ∈ wsX11_letter := by decide +kernel
  have hf7_11 : Cond.fieldLink RX11 7 "KeyOnStreetModel" (TX11 0).2.1 (TX11 0).2.2.1 ∈ wsX11_letter := by decide +kernel
  have hc1 : (nI pm).toNatClampNeg = pm := nI_clamp (by omega)
  refine q_iload_n F 1 dX11_letter_0 rfl ?_
  refine q_i2l F dX11_letter_1 ?_
  refine q_lconst F dX11_letter_2 (v := 1) (by decide) ?_
  refine q_ldc2 F hk44 dX11_letter_3 ?_
  refine q_callS F (As := [.long x.toInt64, .long (1 : Int64), .long (126 : Int64)]) (rest := []) (c_X11_in l E (mC E a f hh A ++ tl) x.toInt64 (1 : Int64) (126 : Int64)) (List.Perm.refl _) gX11_letter_X11_in rfl rfl rfl hd_X11_in ⟨by decide, by decide⟩ rfl (Nat.le_of_ble_eq_true rfl) dX11_letter_6 ⟨by decide, by decide⟩ (fun v_ w_ hvw => ?_)
  rw [hvw.1, hvw.2]
  clear hvw
  refine q_at (pc' := 9) (st' := [.int (bI (inL x.toInt64 (1 : Int64) (126 : Int64)))]) (ws' := mC E a f hh A ++ tl) (k' := 0) (n' := 0) rfl rfl rfl rfl rfl ?_
  refine q_toi (bI (inI x (nI 1) (nI 126))) (congrArg bI (inL_I (by decide) (by decide))) ?_
  refine q_if_ne F (tgt := 15) dX11_letter_9 (by decide) (fun h_9 => ?_) (fun h_9 => ?_)
  · skip
    have hb_9 := bI_1 h_9
    refine q_aload_n F 0 dX11_letter_15 rfl ?_
    refine q_get F (ci := 11) (j := 1) (List.mem_append_left _ (List.mem_of_getElem? (i := 0) rfl)) rfl hi11 (by decide) hf50_11 rfl rfl dX11_letter_16 ?_
    refine q_toi (nI pm) (h1) ?_
    refine q_bipush F dX11_letter_19 (v := nI 30) (by decide) ?_
    refine q_icmp_ne F (tgt := 27) dX11_letter_21 (by decide) (fun h_21 => ?_) (fun h_21 => ?_)
    · skip
      have hn_21 : pm ≠ 30 := nf_ne_t (by omega) (by omega) h_21
      refine q_aload_n F 0 dX11_letter_27 rfl ?_
      refine q_get F (ci := 11) (j := 0) (List.mem_append_left _ (List.mem_of_getElem? (i := 0) rfl)) rfl hi11 (by decide) hf7_11 rfl rfl dX11_letter_28 ?_
      refine q_aload_n F 0 dX11_letter_31 rfl ?_
      refine q_get F (ci := 11) (j := 1) (List.mem_append_left _ (List.mem_of_getElem? (i := 0) rfl)) rfl hi11 (by decide) hf50_11 rfl rfl dX11_letter_32 ?_
      refine q_toi (nI pm) (h1) ?_
      refine q_iload_n F 1 dX11_letter_35 rfl ?_
      refine q_iast F 1 rfl pm rfl (by omega) (by decide) dX11_letter_36 (ws' := mC E a f hh (va_up A 0 (upd (A 0) pm x)) ++ tl) rfl ?_
      refine q_aload_n F 0 dX11_letter_37 rfl ?_
      refine q_dup F dX11_letter_38 rfl ?_
      refine q_get F (ci := 11) (j := 1) (List.mem_append_left _ (List.mem_of_getElem? (i := 0) rfl)) rfl hi11 (by decide) hf50_11 rfl rfl dX11_letter_39 ?_
      refine q_toi (nI pm) (h1) ?_
      refine q_iconst F dX11_letter_42 (v := nI 1) (by decide) ?_
      refine q_iadd F dX11_letter_43 ?_
      refine q_toi (nI (pm + 1)) (nI_add _ _) ?_
      refine q_put F (j := 1) 0 rfl rfl hi11 tyX11 tyX11_ok nmX11 (by decide) hf50_11 rfl rfl rfl rfl (Nat.le_of_ble_eq_true rfl) dX11_letter_44 (ws' := mC E a (upd f 1 (nI (pm + 1))) hh (va_up A 0 (upd (A 0) pm x)) ++ tl) rfl ?_
      refine q_aload_n F 0 dX11_letter_47 rfl ?_
      refine q_get F (ci := 11) (j := 1) (List.mem_append_left _ (List.mem_of_getElem? (i := 0) rfl)) rfl hi11 (by decide) hf50_11 rfl rfl dX11_letter_48 ?_
      refine q_iret F hr_ dX11_letter_51 (hp_ _ _ ⟨congrArg (fun z => some (Value.int z)) ?_, ?_⟩)
      · simp [letM, upd, nI_add, *]
      · simp [letM, nI_add, *]
    · skip
      have hn_21 : pm = 30 := nf_ne_f (by omega) (by omega) h_21
      refine q_bipush F dX11_letter_24 (v := (-104)) (by decide) ?_
      refine q_iret F hr_ dX11_letter_26 (hp_ _ _ ⟨congrArg (fun z => some (Value.int z)) ?_, ?_⟩)
      · simp [letM, upd, nI_add, *]
      · simp [letM, nI_add, *]
  · skip
    have hb_9 := bI_0 h_9
    refine q_bipush F dX11_letter_12 (v := (-102)) (by decide) ?_
    refine q_iret F hr_ dX11_letter_14 (hp_ _ _ ⟨congrArg (fun z => some (Value.int z)) ?_, ?_⟩)
    · simp [letM, upd, nI_add, *]
    · simp [letM, nI_add, *]

set_option maxHeartbeats 4000000 in
set_option maxRecDepth 100000 in
theorem c_X11_blank (l : Launch) (E : gEnv) (a : Nat → Nat) (f : Nat → Int32) (hh : Int64) (A : Nat → Nat → Int32) (tl : va_W) : Cn l E yX11_blank wsX11_blank (rmL 0 0 0) [.ref (a 32)] (mC E a f hh A ++ tl) 0 0 (fun v w => v = some (.int (f 1)) ∧ w = mC E a (upd f 1 (nI 0)) hh A ++ tl) := by
  refine Cn.of (own := RX11) (cc := cX11_blank) (maxL := 2) (ret := (some .int)) (lv := [(0, .ref (a 32))]) (by decide) rfl rfl (Nat.le_of_ble_eq_true rfl) rfl ?_
  intro p_ e_ s_ m_ args_ below_ meth_ c_ A_ P_ hp_ F hr_ hnm_
  have hf50_11 : Cond.fieldLink RX11 50 "KeyOnStreetModel" (TX11 1).2.1 (TX11 1).2.2.1 ∈ wsX11_blank := by decide +kernel
  have hi11 : ∀ w ∈ u_ws RX11 TX11 32, w ∈ wsX11_blank := by decide +kernel
  refine q_aload_n F 0 dX11_blank_0 rfl ?_
  refine q_get F (ci := 11) (j := 1) (List.mem_append_left _ (List.mem_of_getElem? (i := 0) rfl)) rfl hi11 (by decide) hf50_11 rfl rfl dX11_blank_1 ?_
  refine q_istore_n F (lv' := [(1, .int (f 1)), (0, .ref (a 32))]) dX11_blank_4 (by decide) rfl ?_
  refine q_aload_n F 1 dX11_blank_5 rfl ?_
  refine q_iconst F dX11_blank_6 (v := nI 0) (by decide) ?_
  refine q_put F (j := 1) 0 rfl rfl hi11 tyX11 tyX11_ok nmX11 (by decide) hf50_11 rfl rfl rfl rfl (Nat.le_of_ble_eq_true rfl) dX11_blank_7 (ws' := mC E a (upd f 1 (nI 0)) hh A ++ tl) rfl ?_
  refine q_iload_n F 0 dX11_blank_10 rfl ?_
  refine q_iret F hr_ dX11_blank_11 (hp_ _ _ ⟨congrArg (fun z => some (Value.int z)) ?_, ?_⟩)
  · first | rfl | simp_all
  · rfl

set_option maxHeartbeats 4000000 in
set_option maxRecDepth 100000 in
theorem c_X11_forget (l : Launch) (E : gEnv) (a : Nat → Nat) (f : Nat → Int32) (hh : Int64) (A : Nat → Nat → Int32) (tl : va_W) : Cn l E yX11_forget wsX11_forget (rmL 0 0 0) [.ref (a 32)] (mC E a f hh A ++ tl) 0 0 (fun v w => v = some (.int (f 20)) ∧ w = mC E a (upd f 20 (nI 0)) hh A ++ tl) := by
  refine Cn.of (own := RX11) (cc := cX11_forget) (maxL := 2) (ret := (some .int)) (lv := [(0, .ref (a 32))]) (by decide) rfl rfl (Nat.le_of_ble_eq_true rfl) rfl ?_
  intro p_ e_ s_ m_ args_ below_ meth_ c_ A_ P_ hp_ F hr_ hnm_
  have hf79_11 : Cond.fieldLink RX11 79 "KeyOnStreetModel" (TX11 20).2.1 (TX11 20).2.2.1 ∈ wsX11_forget := by decide +kernel
  have hi11 : ∀ w ∈ u_ws RX11 TX11 32, w ∈ wsX11_forget := by decide +kernel
  refine q_aload_n F 0 dX11_forget_0 rfl ?_
  refine q_get F (ci := 11) (j := 20) (List.mem_append_left _ (List.mem_of_getElem? (i := 0) rfl)) rfl hi11 (by decide) hf79_11 rfl rfl dX11_forget_1 ?_
  refine q_istore_n F (lv' := [(1, .int (f 20)), (0, .ref (a 32))]) dX11_forget_4 (by decide) rfl ?_
  refine q_aload_n F 1 dX11_forget_5 rfl ?_
  refine q_iconst F dX11_forget_6 (v := nI 0) (by decide) ?_
  refine q_put F (j := 20) 0 rfl rfl hi11 tyX11 tyX11_ok nmX11 (by decide) hf79_11 rfl rfl rfl rfl (Nat.le_of_ble_eq_true rfl) dX11_forget_7 (ws' := mC E a (upd f 20 (nI 0)) hh A ++ tl) rfl ?_
  refine q_iload_n F 0 dX11_forget_10 rfl ?_
  refine q_iret F hr_ dX11_forget_11 (hp_ _ _ ⟨congrArg (fun z => some (Value.int z)) ?_, ?_⟩)
  · first | rfl | simp_all
  · rfl

set_option maxHeartbeats 4000000 in
set_option maxRecDepth 100000 in
theorem c_X11_faultOf (l : Launch) (E : gEnv) (a : Nat → Nat) (f : Nat → Int32) (hh : Int64) (A : Nat → Nat → Int32) (tl : va_W) (pm : Nat) (h1 : f 1 = nI pm) (hpm : pm ≤ 30) : Cn l E yX11_faultOf wsX11_faultOf (rmL 2 0 0) [.ref (a 32)] (mC E a f hh A ++ tl) 0 0 (fun v w => v = some (.int (nI (ftF (A 0) pm 31 0))) ∧ w = mC E a f hh A ++ tl) := by
  refine Cn.of (own := RX11) (cc := cX11_faultOf) (maxL := 2) (ret := (some .int)) (lv := [(0, .ref (a 32))]) (by decide) rfl rfl (Nat.le_of_ble_eq_true rfl) rfl ?_
  intro p_ e_ s_ m_ args_ below_ meth_ c_ A_ P_ hp_ F hr_ hnm_
  have hf50_11 : Cond.fieldLink RX11 50 "KeyOnStreetModel" (TX11 1).2.1 (TX11 1).2.2.1 ∈ wsX11_faultOf := by decide +kernel
  have hi11 : ∀ w ∈ u_ws RX11 TX11 32, w ∈ wsX11_faultOf := by decide +kernel
  have hf7_11 : Cond.fieldLink RX11 7 "KeyOnStreetModel" (TX11 0).2.1 (TX11 0).2.2.1 ∈ wsX11_faultOf := by decide +kernel
  have hd_X11_isGood : yX11_isGood.cls ≠ "java/lang/invoke/MethodHandle" ∧ yX11_isGood.cls ≠ "java/lang/invoke/VarHandle" ∧ (parseMethodDescriptor yX11_isGood.desc).map (fun d => d.parameters.length) = some 2 := by decide +kernel
  refine q_iconst F dX11_faultOf_0 (v := nI 0) (by decide) ?_
  refine q_istore_n F (lv' := [(1, .int (nI 0)), (0, .ref (a 32))]) dX11_faultOf_1 (by decide) rfl ?_
  have lb2 : ∀ (fu : Nat) (k : Nat) (hk : k ≤ pm) (hl : ftF (A 0) pm (31 - k) k = ftF (A 0) pm 31 0), pm - k < fu → gW p_ l e_ (rmL 2 0 0) s_ m_ args_ below_ meth_ c_ E A_ 2 (MQ below_ (gQ E A_ P_) args_ s_ 0 0 A_) 2 [(0, .ref (a 32)), (1, .int (nI k))] [] (mC E a f hh A ++ tl) 0 0 := by
    intro fu_2
    induction fu_2 with
    | zero => intro k hk hl hfu; exact absurd hfu (Nat.not_lt_zero _)
    | succ fu_2 ih_2 =>
      intro k hk hl hfu_2
      refine q_iload_n F 1 dX11_faultOf_2 rfl ?_
      refine q_aload_n F 0 dX11_faultOf_3 rfl ?_
      refine q_get F (ci := 11) (j := 1) (List.mem_append_left _ (List.mem_of_getElem? (i := 0) rfl)) rfl hi11 (by decide) hf50_11 rfl rfl dX11_faultOf_4 ?_
      refine q_toi (nI pm) (h1) ?_
      refine q_icmp_ge F (tgt := 29) dX11_faultOf_7 (by decide) (fun h_7 => ?_) (fun h_7 => ?_)
      · skip
        have hn_7 : k ≥ pm := nf_ge_t (by omega) (by omega) h_7
        refine q_iload_n F 1 dX11_faultOf_29 rfl ?_
        refine q_iret F hr_ dX11_faultOf_30 (hp_ _ _ ⟨congrArg (fun z => some (Value.int z)) ?_, ?_⟩)
        · rw [← hl, show 31 - k = 31 - (k + 1) + 1 by omega, ftF, if_neg]; first | (intro z; omega) | (intro z; rw [hb_20] at z; exact absurd z.2 (by decide))
        · rfl
      · skip
        have hn_7 : k < pm := nf_ge_f (by omega) (by omega) h_7
        refine q_iload_n F 1 dX11_faultOf_10 rfl ?_
        refine q_aload_n F 0 dX11_faultOf_11 rfl ?_
        refine q_get F (ci := 11) (j := 0) (List.mem_append_left _ (List.mem_of_getElem? (i := 0) rfl)) rfl hi11 (by decide) hf7_11 rfl rfl dX11_faultOf_12 ?_
        refine q_iload_n F 1 dX11_faultOf_15 rfl ?_
        refine q_iald F (List.mem_append_left _ (List.mem_of_getElem? (i := 1) rfl)) k rfl (by omega) (by decide) dX11_faultOf_16 ?_
        refine q_callS F (As := [.int (nI k), .int (A 0 k)]) (rest := []) (c_X11_isGood l E (mC E a f hh A ++ tl) k (A 0 k) (by omega)) (List.Perm.refl _) gX11_faultOf_X11_isGood rfl rfl rfl hd_X11_isGood ⟨by decide, by decide⟩ rfl (Nat.le_of_ble_eq_true rfl) dX11_faultOf_17 ⟨by decide, by decide⟩ (fun v_ w_ hvw => ?_)
        rw [hvw.1, hvw.2]
        clear hvw
        refine q_at (pc' := 20) (st' := [.int (bI (gdF k (A 0 k)))]) (ws' := mC E a f hh A ++ tl) (k' := 0) (n' := 0) rfl rfl rfl rfl rfl ?_
        refine q_if_eq F (tgt := 29) dX11_faultOf_20 (by decide) (fun h_20 => ?_) (fun h_20 => ?_)
        · skip
          have hb_20 := bI_0 h_20
          refine q_iload_n F 1 dX11_faultOf_29 rfl ?_
          refine q_iret F hr_ dX11_faultOf_30 (hp_ _ _ ⟨congrArg (fun z => some (Value.int z)) ?_, ?_⟩)
          · rw [← hl, show 31 - k = 31 - (k + 1) + 1 by omega, ftF, if_neg]; first | (intro z; omega) | (intro z; rw [hb_20] at z; exact absurd z.2 (by decide))
          · rfl
        · skip
          have hb_20 := bI_1 h_20
          refine q_iinc F 1 (v := nI (k + 1)) (lv' := [(1, .int (nI (k + 1))), (0, .ref (a 32))]) dX11_faultOf_23 rfl (nI_1 _) (by decide) rfl ?_
          refine q_goto F (tgt := 2) dX11_faultOf_26 (by decide) ?_
          refine q_lv [1, 0] (lv' := [(0, .ref (a 32)), (1, .int (nI (k + 1)))]) rfl ?_
          refine q_to (lv' := [(0, .ref (a 32)), (1, .int (nI (k + 1)))]) (st' := []) (ws' := mC E a f hh A ++ tl) rfl rfl rfl ?_
          exact ih_2 (k + 1) (by omega) (by rw [← hl, show 31 - k = 31 - (k + 1) + 1 by omega, ftF, if_pos ⟨hn_7, hb_20⟩]) (by omega)
  refine q_lv [1, 0] (lv' := [(0, .ref (a 32)), (1, .int (nI 0))]) rfl ?_
  refine q_to (lv' := [(0, .ref (a 32)), (1, .int (nI 0))]) (st' := []) (ws' := mC E a f hh A ++ tl) rfl rfl rfl ?_
  exact lb2 (pm - 0 + 1) 0 (by omega) (rfl) (Nat.lt_succ_self _)

set_option maxHeartbeats 4000000 in
set_option maxRecDepth 100000 in
theorem c_X11_fault (l : Launch) (E : gEnv) (a : Nat → Nat) (f : Nat → Int32) (hh : Int64) (A : Nat → Nat → Int32) (tl : va_W) (pm : Nat) (h1 : f 1 = nI pm) (hpm : pm ≤ 30) : Cn l E yX11_fault wsX11_fault (rmL 3 0 0) [.ref (a 32)] (mC E a f hh A ++ tl) 0 0 (fun v w => v = some (.int (nI (ftF (A 0) pm 31 0))) ∧ w = mC E a f hh A ++ tl) := by
  refine Cn.of (own := RX11) (cc := cX11_fault) (maxL := 1) (ret := (some .int)) (lv := [(0, .ref (a 32))]) (by decide) rfl rfl (Nat.le_of_ble_eq_true rfl) rfl ?_
  intro p_ e_ s_ m_ args_ below_ meth_ c_ A_ P_ hp_ F hr_ hnm_
  have hd_X11_faultOf : yX11_faultOf.cls = RX11 ∧ yX11_faultOf.cls ≠ "java/lang/invoke/MethodHandle" ∧ yX11_faultOf.cls ≠ "java/lang/invoke/VarHandle" ∧ (parseMethodDescriptor yX11_faultOf.desc).map (fun d => d.parameters.length) = some 0 := by decide +kernel
  refine q_aload_n F 0 dX11_fault_0 rfl ?_
  refine q_callV F (ci := 11) (As := []) (rest := []) (List.mem_append_left _ (List.mem_of_getElem? (i := 0) rfl)) rfl (c_X11_faultOf l E a f hh A tl pm h1 hpm) (List.Perm.refl _) gX11_fault_X11_faultOf rfl rfl rfl hd_X11_faultOf ⟨by decide, by decide⟩ rfl (Nat.le_of_ble_eq_true rfl) dX11_fault_1 ⟨by decide, by decide⟩ (fun v_ w_ hvw => ?_)
  rw [hvw.1, hvw.2]
  clear hvw
  refine q_at (pc' := 4) (st' := [.int (nI (ftF (A 0) pm 31 0))]) (ws' := mC E a f hh A ++ tl) (k' := 0) (n' := 0) rfl rfl rfl rfl rfl ?_
  refine q_iret F hr_ dX11_fault_4 (hp_ _ _ ⟨congrArg (fun z => some (Value.int z)) ?_, ?_⟩)
  · first | rfl | simp_all
  · rfl

set_option maxHeartbeats 4000000 in
set_option maxRecDepth 100000 in
theorem c_X11_about (l : Launch) (E : gEnv) (a : Nat → Nat) (f : Nat → Int32) (hh : Int64) (A : Nat → Nat → Int32) (tl : va_W) (T : gTown) (hm : f 2 = nI (tN T)) (hn : tN T ≤ 6) (x y : Int32) : Cn l E yX11_about wsX11_about (rmL 2 0 0) [.ref (a 32), .int x, .int y] (mC E a f hh A ++ tl) 0 0 (fun v w => v = some (.int (aboM T A x y)) ∧ w = mC E a f hh A ++ tl) := by
  refine Cn.of (own := RX11) (cc := cX11_about) (maxL := 3) (ret := (some .int)) (lv := [(0, .ref (a 32)), (1, .int x), (2, .int y)]) (by decide) rfl rfl (Nat.le_of_ble_eq_true rfl) rfl ?_
  intro p_ e_ s_ m_ args_ below_ meth_ c_ A_ P_ hp_ F hr_ hnm_
  have hd_X11_isHouse : yX11_isHouse.cls = RX11 ∧ yX11_isHouse.cls ≠ "java/lang/invoke/MethodHandle" ∧ yX11_isHouse.cls ≠ "java/lang/invoke/VarHandle" ∧ (parseMethodDescriptor yX11_isHouse.desc).map (fun d => d.parameters.length) = some 1 := by decide +kernel
  have hk89 : Cond.constantLong RX11 89 (7) ∈ wsX11_about := by decide +kernel
  have hd_X11_in : yX11_in.cls ≠ "java/lang/invoke/MethodHandle" ∧ yX11_in.cls ≠ "java/lang/invoke/VarHandle" ∧ (parseMethodDescriptor yX11_in.desc).map (fun d => d.parameters.length) = some 3 := by decide +kernel
  have hf13_11 : Cond.fieldLink RX11 13 "KeyOnStreetModel" (TX11 7).2.1 (TX11 7).2.2.1 ∈ wsX11_about := by decide +kernel
  have hi11 : ∀ w ∈ u_ws RX11 TX11 32, w ∈ wsX11_about := by decide +kernel
  refine q_aload_n F 0 dX11_about_0 rfl ?_
  refine q_iload_n F 1 dX11_about_1 rfl ?_
  refine q_callV F (ci := 11) (As := [.int x]) (rest := []) (List.mem_append_left _ (List.mem_of_getElem? (i := 0) rfl)) rfl (c_X11_isHouse l E a f hh A tl T hm hn x) (List.Perm.refl _) gX11_about_X11_isHouse rfl rfl rfl hd_X11_isHouse ⟨by decide, by decide⟩ rfl (Nat.le_of_ble_eq_true rfl) dX11_about_2 ⟨by decide, by decide⟩ (fun v_ w_ hvw => ?_)
  rw [hvw.1, hvw.2]
  clear hvw
  refine q_at (pc' := 5) (st' := [.int (bI (hsB (tN T) x))]) (ws' := mC E a f hh A ++ tl) (k' := 0) (n' := 0) rfl rfl rfl rfl rfl ?_
  refine q_if_ne F (tgt := 11) dX11_about_5 (by decide) (fun h_5 => ?_) (fun h_5 => ?_)
  · skip
    have hb_5 := bI_1 h_5
    obtain ⟨j, hj, rfl⟩ := hsB_of hn hb_5
    have hcj : (nI j).toNatClampNeg = j := nI_clamp (by omega)
    refine q_iload_n F 2 dX11_about_11 rfl ?_
    refine q_i2l F dX11_about_12 ?_
    refine q_lconst F dX11_about_13 (v := 0) (by decide) ?_
    refine q_ldc2 F hk89 dX11_about_14 ?_
    refine q_callS F (As := [.long y.toInt64, .long (0 : Int64), .long (7 : Int64)]) (rest := []) (c_X11_in l E (mC E a f hh A ++ tl) y.toInt64 (0 : Int64) (7 : Int64)) (List.Perm.refl _) gX11_about_X11_in rfl rfl rfl hd_X11_in ⟨by decide, by decide⟩ rfl (Nat.le_of_ble_eq_true rfl) dX11_about_17 ⟨by decide, by decide⟩ (fun v_ w_ hvw => ?_)
    rw [hvw.1, hvw.2]
    clear hvw
    refine q_at (pc' := 20) (st' := [.int (bI (inL y.toInt64 (0 : Int64) (7 : Int64)))]) (ws' := mC E a f hh A ++ tl) (k' := 0) (n' := 0) rfl rfl rfl rfl rfl ?_
    refine q_toi (bI (inI y (nI 0) (nI 7))) (congrArg bI (inL_I (by decide) (by decide))) ?_
    refine q_if_eq F (tgt := 37) dX11_about_20 (by decide) (fun h_20 => ?_) (fun h_20 => ?_)
    · skip
      have hb_20 := bI_0 h_20
      refine q_bipush F dX11_about_37 (v := (-102)) (by decide) ?_
      refine q_iret F hr_ dX11_about_39 (hp_ _ _ ⟨congrArg (fun z => some (Value.int z)) ?_, ?_⟩)
      · simp [aboM, *]
      · rfl
    · skip
      have hb_20 := bI_1 h_20
      obtain ⟨k, hk0, hk7, rfl⟩ := inI_nat (by decide) (by decide) hb_20
      have hck : (nI k).toNatClampNeg = k := nI_clamp (by omega)
      refine q_aload_n F 0 dX11_about_23 rfl ?_
      refine q_get F (ci := 11) (j := 7) (List.mem_append_left _ (List.mem_of_getElem? (i := 0) rfl)) rfl hi11 (by decide) hf13_11 rfl rfl dX11_about_24 ?_
      refine q_bipush F dX11_about_27 (v := nI 8) (by decide) ?_
      refine q_iload_n F 1 dX11_about_29 rfl ?_
      refine q_imul F dX11_about_30 ?_
      refine q_toi (nI (8 * j)) (pk_mul _ _) ?_
      refine q_iload_n F 2 dX11_about_31 rfl ?_
      refine q_iadd F dX11_about_32 ?_
      refine q_toi (nI (8 * j + k)) (nI_add _ _) ?_
      refine q_iald F (List.mem_append_left _ (List.mem_of_getElem? (i := 2) rfl)) (8 * j + k) rfl (by omega) (by decide) dX11_about_33 ?_
      refine q_goto F (tgt := 39) dX11_about_34 (by decide) ?_
      refine q_iret F hr_ dX11_about_39 (hp_ _ _ ⟨congrArg (fun z => some (Value.int z)) ?_, ?_⟩)
      · simp [aboM, *]
      · rfl
  · skip
    have hb_5 := bI_0 h_5
    refine q_bipush F dX11_about_8 (v := (-101)) (by decide) ?_
    refine q_iret F hr_ dX11_about_10 (hp_ _ _ ⟨congrArg (fun z => some (Value.int z)) ?_, ?_⟩)
    · simp [aboM, *]
    · rfl

set_option maxHeartbeats 4000000 in
set_option maxRecDepth 100000 in
theorem c_X11_as (l : Launch) (E : gEnv) (a : Nat → Nat) (f : Nat → Int32) (hh : Int64) (A : Nat → Nat → Int32) (tl : va_W) (T : gTown) (hm : f 2 = nI (tN T)) (hn : tN T ≤ 6) (hR : rowsOf (A 7) T) (hO : okT T) (x y : Int32) : Cn l E yX11_as wsX11_as (rmL 2 0 0) [.ref (a 32), .int x, .int y] (mC E a f hh A ++ tl) 0 0 (fun v w => v = some (.int (asM T x y)) ∧ w = mC E a f hh A ++ tl) := by
  refine Cn.of (own := RX11) (cc := cX11_as) (maxL := 5) (ret := (some .int)) (lv := [(0, .ref (a 32)), (1, .int x), (2, .int y)]) (by decide) rfl rfl (Nat.le_of_ble_eq_true rfl) rfl ?_
  intro p_ e_ s_ m_ args_ below_ meth_ c_ A_ P_ hp_ F hr_ hnm_
  have hd_X11_isHouse : yX11_isHouse.cls = RX11 ∧ yX11_isHouse.cls ≠ "java/lang/invoke/MethodHandle" ∧ yX11_isHouse.cls ≠ "java/lang/invoke/VarHandle" ∧ (parseMethodDescriptor yX11_isHouse.desc).map (fun d => d.parameters.length) = some 1 := by decide +kernel
  have hk91 : Cond.constantLong RX11 91 (4) ∈ wsX11_as := by decide +kernel
  have hd_X11_in : yX11_in.cls ≠ "java/lang/invoke/MethodHandle" ∧ yX11_in.cls ≠ "java/lang/invoke/VarHandle" ∧ (parseMethodDescriptor yX11_in.desc).map (fun d => d.parameters.length) = some 3 := by decide +kernel
  have hf13_11 : Cond.fieldLink RX11 13 "KeyOnStreetModel" (TX11 7).2.1 (TX11 7).2.2.1 ∈ wsX11_as := by decide +kernel
  have hi11 : ∀ w ∈ u_ws RX11 TX11 32, w ∈ wsX11_as := by decide +kernel
  refine q_aload_n F 0 dX11_as_0 rfl ?_
  refine q_iload_n F 1 dX11_as_1 rfl ?_
  refine q_callV F (ci := 11) (As := [.int x]) (rest := []) (List.mem_append_left _ (List.mem_of_getElem? (i := 0) rfl)) rfl (c_X11_isHouse l E a f hh A tl T hm hn x) (List.Perm.refl _) gX11_as_X11_isHouse rfl rfl rfl hd_X11_isHouse ⟨by decide, by decide⟩ rfl (Nat.le_of_ble_eq_true rfl) dX11_as_2 ⟨by decide, by decide⟩ (fun v_ w_ hvw => ?_)
  rw [hvw.1, hvw.2]
  clear hvw
  refine q_at (pc' := 5) (st' := [.int (bI (hsB (tN T) x))]) (ws' := mC E a f hh A ++ tl) (k' := 0) (n' := 0) rfl rfl rfl rfl rfl ?_
  refine q_if_ne F (tgt := 11) dX11_as_5 (by decide) (fun h_5 => ?_) (fun h_5 => ?_)
  · skip
    have hb_5 := bI_1 h_5
    obtain ⟨j, hj, rfl⟩ := hsB_of hn hb_5
    have hcj : (nI j).toNatClampNeg = j := nI_clamp (by omega)
    have hk5 := (hO.2 j hj).1
    refine q_iload_n F 2 dX11_as_11 rfl ?_
    refine q_i2l F dX11_as_12 ?_
    refine q_lconst F dX11_as_13 (v := 0) (by decide) ?_
    refine q_ldc2 F hk91 dX11_as_14 ?_
    refine q_callS F (As := [.long y.toInt64, .long (0 : Int64), .long (4 : Int64)]) (rest := []) (c_X11_in l E (mC E a f hh A ++ tl) y.toInt64 (0 : Int64) (4 : Int64)) (List.Perm.refl _) gX11_as_X11_in rfl rfl rfl hd_X11_in ⟨by decide, by decide⟩ rfl (Nat.le_of_ble_eq_true rfl) dX11_as_17 ⟨by decide, by decide⟩ (fun v_ w_ hvw => ?_)
    rw [hvw.1, hvw.2]
    clear hvw
    refine q_at (pc' := 20) (st' := [.int (bI (inL y.toInt64 (0 : Int64) (4 : Int64)))]) (ws' := mC E a f hh A ++ tl) (k' := 0) (n' := 0) rfl rfl rfl rfl rfl ?_
    refine q_toi (bI (inI y (nI 0) (nI 4))) (congrArg bI (inL_I (by decide) (by decide))) ?_
    refine q_if_ne F (tgt := 26) dX11_as_20 (by decide) (fun h_20 => ?_) (fun h_20 => ?_)
    · skip
      have hb_20 := bI_1 h_20
      obtain ⟨k, hk0, hk7, rfl⟩ := inI_nat (by decide) (by decide) hb_20
      refine q_aload_n F 0 dX11_as_26 rfl ?_
      refine q_get F (ci := 11) (j := 7) (List.mem_append_left _ (List.mem_of_getElem? (i := 0) rfl)) rfl hi11 (by decide) hf13_11 rfl rfl dX11_as_27 ?_
      refine q_bipush F dX11_as_30 (v := nI 8) (by decide) ?_
      refine q_iload_n F 1 dX11_as_32 rfl ?_
      refine q_imul F dX11_as_33 ?_
      refine q_toi (nI (8 * j)) (pk_mul _ _) ?_
      refine q_iald F (List.mem_append_left _ (List.mem_of_getElem? (i := 2) rfl)) (8 * j) rfl (by omega) (by decide) dX11_as_34 ?_
      refine q_toi (nI (tK T j)) ((hR j hj).1) ?_
      refine q_istore_n F (lv' := [(3, .int (nI (tK T j))), (0, .ref (a 32)), (1, .int (nI j)), (2, .int (nI k))]) dX11_as_35 (by decide) rfl ?_
      refine q_iload_n F 3 dX11_as_36 rfl ?_
      refine q_if_eq F (tgt := 55) dX11_as_37 (by decide) (fun h_37 => ?_) (fun h_37 => ?_)
      · skip
        have hn_37 : k = 0 := nf_eq_t0 (by omega) h_37
        refine q_iconst F dX11_as_55 (v := nI 1) (by decide) ?_
        refine q_goto F (tgt := 60) dX11_as_56 (by decide) ?_
        refine q_istore F (lv' := [(4, .int (nI 1)), (3, .int (nI (tK T j))), (0, .ref (a 32)), (1, .int (nI j)), (2, .int (nI k))]) dX11_as_60 (by decide) rfl ?_
        refine q_iload F 0 dX11_as_62 rfl ?_
        refine q_if_eq F (tgt := 71) dX11_as_64 (by decide) (fun h_64 => ?_) (fun h_64 => ?_)
        · skip
          exact absurd h_64 (by decide)
        · skip
          refine q_iload_n F 3 dX11_as_67 rfl ?_
          refine q_goto F (tgt := 72) dX11_as_68 (by decide) ?_
          refine q_iret F hr_ dX11_as_72 (hp_ _ _ ⟨congrArg (fun z => some (Value.int z)) ?_, ?_⟩)
          · rw [asM, if_pos hb_5, if_pos hb_20, hcj, if_pos (Or.inl (show nI k = nI 0 from h_37))]
          · rfl
      · skip
        have hn_37 : k ≠ 0 := nf_eq_f0 (by omega) h_37
        refine q_iload_n F 3 dX11_as_40 rfl ?_
        refine q_iload_n F 0 dX11_as_41 rfl ?_
        refine q_icmp_eq F (tgt := 55) dX11_as_42 (by decide) (fun h_42 => ?_) (fun h_42 => ?_)
        · skip
          have hn_42 : k = (tK T j) := nf_eq_t (by omega) (by omega) h_42
          refine q_iconst F dX11_as_55 (v := nI 1) (by decide) ?_
          refine q_goto F (tgt := 60) dX11_as_56 (by decide) ?_
          refine q_istore F (lv' := [(4, .int (nI 1)), (3, .int (nI (tK T j))), (0, .ref (a 32)), (1, .int (nI j)), (2, .int (nI k))]) dX11_as_60 (by decide) rfl ?_
          refine q_iload F 0 dX11_as_62 rfl ?_
          refine q_if_eq F (tgt := 71) dX11_as_64 (by decide) (fun h_64 => ?_) (fun h_64 => ?_)
          · skip
            exact absurd h_64 (by decide)
          · skip
            refine q_iload_n F 3 dX11_as_67 rfl ?_
            refine q_goto F (tgt := 72) dX11_as_68 (by decide) ?_
            refine q_iret F hr_ dX11_as_72 (hp_ _ _ ⟨congrArg (fun z => some (Value.int z)) ?_, ?_⟩)
            · rw [asM, if_pos hb_5, if_pos hb_20, hcj, if_pos (Or.inr (Or.inl h_42))]
            · rfl
        · skip
          have hn_42 : k ≠ (tK T j) := nf_eq_f (by omega) (by omega) h_42
          refine q_iload_n F 3 dX11_as_45 rfl ?_
          refine q_iconst F dX11_as_46 (v := nI 3) (by decide) ?_
          refine q_icmp_ne F (tgt := 59) dX11_as_47 (by decide) (fun h_47 => ?_) (fun h_47 => ?_)
          · skip
            have hn_47 : k ≠ 3 := nf_ne_t (by omega) (by omega) h_47
            refine q_iconst F dX11_as_59 (v := nI 0) (by decide) ?_
            refine q_istore F (lv' := [(4, .int (nI 0)), (3, .int (nI (tK T j))), (0, .ref (a 32)), (1, .int (nI j)), (2, .int (nI k))]) dX11_as_60 (by decide) rfl ?_
            refine q_iload F 0 dX11_as_62 rfl ?_
            refine q_if_eq F (tgt := 71) dX11_as_64 (by decide) (fun h_64 => ?_) (fun h_64 => ?_)
            · skip
              refine q_iconst F dX11_as_71 (v := (-1)) (by decide) ?_
              refine q_iret F hr_ dX11_as_72 (hp_ _ _ ⟨congrArg (fun z => some (Value.int z)) ?_, ?_⟩)
              · rw [asM, if_pos hb_5, if_pos hb_20, hcj, if_neg (by rintro (z | z | z); exact h_37 z; exact h_42 z; exact h_47 z.1)]
              · rfl
            · skip
              exact absurd h_64 (by decide)
          · skip
            have hn_47 : k = 3 := nf_ne_f (by omega) (by omega) h_47
            refine q_iload_n F 0 dX11_as_50 rfl ?_
            refine q_iconst F dX11_as_51 (v := nI 4) (by decide) ?_
            refine q_icmp_ne F (tgt := 59) dX11_as_52 (by decide) (fun h_52 => ?_) (fun h_52 => ?_)
            · skip
              have hn_52 : (tK T j) ≠ 4 := nf_ne_t (by omega) (by omega) h_52
              refine q_iconst F dX11_as_59 (v := nI 0) (by decide) ?_
              refine q_istore F (lv' := [(4, .int (nI 0)), (3, .int (nI (tK T j))), (0, .ref (a 32)), (1, .int (nI j)), (2, .int (nI k))]) dX11_as_60 (by decide) rfl ?_
              refine q_iload F 0 dX11_as_62 rfl ?_
              refine q_if_eq F (tgt := 71) dX11_as_64 (by decide) (fun h_64 => ?_) (fun h_64 => ?_)
              · skip
                refine q_iconst F dX11_as_71 (v := (-1)) (by decide) ?_
                refine q_iret F hr_ dX11_as_72 (hp_ _ _ ⟨congrArg (fun z => some (Value.int z)) ?_, ?_⟩)
                · rw [asM, if_pos hb_5, if_pos hb_20, hcj, if_neg (by rintro (z | z | z); exact h_37 z; exact h_42 z; exact hn_52 z.2)]
                · rfl
              · skip
                exact absurd h_64 (by decide)
            · skip
              have hn_52 : (tK T j) = 4 := nf_ne_f (by omega) (by omega) h_52
              refine q_iconst F dX11_as_55 (v := nI 1) (by decide) ?_
              refine q_goto F (tgt := 60) dX11_as_56 (by decide) ?_
              refine q_istore F (lv' := [(4, .int (nI 1)), (3, .int (nI (tK T j))), (0, .ref (a 32)), (1, .int (nI j)), (2, .int (nI k))]) dX11_as_60 (by decide) rfl ?_
              refine q_iload F 0 dX11_as_62 rfl ?_
              refine q_if_eq F (tgt := 71) dX11_as_64 (by decide) (fun h_64 => ?_) (fun h_64 => ?_)
              · skip
                exact absurd h_64 (by decide)
              · skip
                refine q_iload_n F 3 dX11_as_67 rfl ?_
                refine q_goto F (tgt := 72) dX11_as_68 (by decide) ?_
                refine q_iret F hr_ dX11_as_72 (hp_ _ _ ⟨congrArg (fun z => some (Value.int z)) ?_, ?_⟩)
                · rw [asM, if_pos hb_5, if_pos hb_20, hcj, if_pos (Or.inr (Or.inr ⟨h_47, hn_52⟩))]
                · rfl
    · skip
      have hb_20 := bI_0 h_20
      refine q_bipush F dX11_as_23 (v := (-102)) (by decide) ?_
      refine q_iret F hr_ dX11_as_25 (hp_ _ _ ⟨congrArg (fun z => some (Value.int z)) ?_, ?_⟩)
      · simp [asM, *]
      · rfl
  · skip
    have hb_5 := bI_0 h_5
    refine q_bipush F dX11_as_8 (v := (-101)) (by decide) ?_
    refine q_iret F hr_ dX11_as_10 (hp_ _ _ ⟨congrArg (fun z => some (Value.int z)) ?_, ?_⟩)
    · simp [asM, *]
    · rfl

set_option maxHeartbeats 4000000 in
set_option maxRecDepth 100000 in
theorem c_X11_shut (l : Launch) (E : gEnv) (a : Nat → Nat) (f : Nat → Int32) (hh : Int64) (A : Nat → Nat → Int32) (tl : va_W) (T : gTown) (hm : f 2 = nI (tN T)) (hn : tN T ≤ 6) (x : Int32) (z : Int32) : Cn l E yX11_shut wsX11_shut (rmL 2 0 0) [.ref (a 32), .int x, .int z] (mC E a f hh A ++ tl) 0 0 (fun v w => v = some (.int (shuM T f A x z).1) ∧ w = mC E a f hh ((shuM T f A x z).2) ++ tl) := by
  refine Cn.of (own := RX11) (cc := cX11_shut) (maxL := 4) (ret := (some .int)) (lv := [(0, .ref (a 32)), (1, .int x), (2, .int z)]) (by decide) rfl rfl (Nat.le_of_ble_eq_true rfl) rfl ?_
  intro p_ e_ s_ m_ args_ below_ meth_ c_ A_ P_ hp_ F hr_ hnm_
  have hd_X11_isHouse : yX11_isHouse.cls = RX11 ∧ yX11_isHouse.cls ≠ "java/lang/invoke/MethodHandle" ∧ yX11_isHouse.cls ≠ "java/lang/invoke/VarHandle" ∧ (parseMethodDescriptor yX11_isHouse.desc).map (fun d => d.parameters.length) = some 1 := by decide +kernel
  have hd_X11_isShut : yX11_isShut.cls = RX11 ∧ yX11_isShut.cls ≠ "java/lang/invoke/MethodHandle" ∧ yX11_isShut.cls ≠ "java/lang/invoke/VarHandle" ∧ (parseMethodDescriptor yX11_isShut.desc).map (fun d => d.parameters.length) = some 1 := by decide +kernel
  have hf13_11 : Cond.fieldLink RX11 13 "KeyOnStreetModel" (TX11 7).2.1 (TX11 7).2.2.1 ∈ wsX11_shut := by decide +kernel
  have hi11 : ∀ w ∈ u_ws RX11 TX11 32, w ∈ wsX11_shut := by decide +kernel
  have hf76_11 : Cond.fieldLink RX11 76 "KeyOnStreetModel" (TX11 5).2.1 (TX11 5).2.2.1 ∈ wsX11_shut := by decide +kernel
  refine q_aload_n F 0 dX11_shut_0 rfl ?_
  refine q_iload_n F 1 dX11_shut_1 rfl ?_
  refine q_callV F (ci := 11) (As := [.int x]) (rest := []) (List.mem_append_left _ (List.mem_of_getElem? (i := 0) rfl)) rfl (c_X11_isHouse l E a f hh A tl T hm hn x) (List.Perm.refl _) gX11_shut_X11_isHouse rfl rfl rfl hd_X11_isHouse ⟨by decide, by decide⟩ rfl (Nat.le_of_ble_eq_true rfl) dX11_shut_2 ⟨by decide, by decide⟩ (fun v_ w_ hvw => ?_)
  rw [hvw.1, hvw.2]
  clear hvw
  refine q_at (pc' := 5) (st' := [.int (bI (hsB (tN T) x))]) (ws' := mC E a f hh A ++ tl) (k' := 0) (n' := 0) rfl rfl rfl rfl rfl ?_
  refine q_if_ne F (tgt := 11) dX11_shut_5 (by decide) (fun h_5 => ?_) (fun h_5 => ?_)
  · skip
    have hb_5 := bI_1 h_5
    obtain ⟨j, hj, rfl⟩ := hsB_of hn hb_5
    have hcj : (nI j).toNatClampNeg = j := nI_clamp (by omega)
    refine q_aload_n F 0 dX11_shut_11 rfl ?_
    refine q_iload_n F 1 dX11_shut_12 rfl ?_
    refine q_callV F (ci := 11) (As := [.int (nI j)]) (rest := []) (List.mem_append_left _ (List.mem_of_getElem? (i := 0) rfl)) rfl (c_X11_isShut l E a f hh A tl T hm hn j (by omega)) (List.Perm.refl _) gX11_shut_X11_isShut rfl rfl rfl hd_X11_isShut ⟨by decide, by decide⟩ rfl (Nat.le_of_ble_eq_true rfl) dX11_shut_13 ⟨by decide, by decide⟩ (fun v_ w_ hvw => ?_)
    rw [hvw.1, hvw.2]
    clear hvw
    refine q_at (pc' := 16) (st' := [.int (bI (outB (sF (A 7)) j))]) (ws' := mC E a f hh A ++ tl) (k' := 0) (n' := 0) rfl rfl rfl rfl rfl ?_
    refine q_if_eq F (tgt := 23) dX11_shut_16 (by decide) (fun h_16 => ?_) (fun h_16 => ?_)
    · skip
      have hb_16 := bI_0 h_16
      refine q_iconst F dX11_shut_23 (v := nI 0) (by decide) ?_
      refine q_istore_n F (lv' := [(3, .int (nI 0)), (0, .ref (a 32)), (1, .int (nI j)), (2, .int z)]) dX11_shut_24 (by decide) rfl ?_
      refine q_aload_n F 1 dX11_shut_25 rfl ?_
      refine q_get F (ci := 11) (j := 7) (List.mem_append_left _ (List.mem_of_getElem? (i := 0) rfl)) rfl hi11 (by decide) hf13_11 rfl rfl dX11_shut_26 ?_
      refine q_bipush F dX11_shut_29 (v := nI 8) (by decide) ?_
      refine q_iload_n F 2 dX11_shut_31 rfl ?_
      refine q_imul F dX11_shut_32 ?_
      refine q_toi (nI (8 * j)) (pk_mul _ _) ?_
      refine q_iconst F dX11_shut_33 (v := nI 4) (by decide) ?_
      refine q_iadd F dX11_shut_34 ?_
      refine q_toi (nI (8 * j + 4)) (nI_add _ _) ?_
      refine q_iload_n F 3 dX11_shut_35 rfl ?_
      refine q_if_ne F (tgt := 43) dX11_shut_36 (by decide) (fun h_36 => ?_) (fun h_36 => ?_)
      · skip
        refine q_iload_n F 0 dX11_shut_43 rfl ?_
        refine q_iconst F dX11_shut_44 (v := nI 1) (by decide) ?_
        refine q_icmp_ne F (tgt := 62) dX11_shut_45 (by decide) (fun h_45 => ?_) (fun h_45 => ?_)
        · skip
          refine q_aload_n F 1 dX11_shut_62 rfl ?_
          refine q_get F (ci := 11) (j := 5) (List.mem_append_left _ (List.mem_of_getElem? (i := 0) rfl)) rfl hi11 (by decide) hf76_11 rfl rfl dX11_shut_63 ?_
          refine q_iast F 2 rfl (8 * j + 4) rfl (by omega) (by decide) dX11_shut_66 (ws' := mC E a f hh (va_up A 7 (upd (A 7) (8 * j + 4) (f 5))) ++ tl) rfl ?_
          refine q_iload_n F 0 dX11_shut_67 rfl ?_
          refine q_iret F hr_ dX11_shut_68 (hp_ _ _ ⟨congrArg (fun z => some (Value.int z)) ?_, ?_⟩)
          · simp [shuM, bI, *]
          · simp [shuM, *]
        · skip
          exact absurd h_45 (by decide)
      · skip
        refine q_iconst F dX11_shut_39 (v := (-1)) (by decide) ?_
        refine q_goto F (tgt := 66) dX11_shut_40 (by decide) ?_
        refine q_iast F 2 rfl (8 * j + 4) rfl (by omega) (by decide) dX11_shut_66 (ws' := mC E a f hh (va_up A 7 (upd (A 7) (8 * j + 4) (-1))) ++ tl) rfl ?_
        refine q_iload_n F 0 dX11_shut_67 rfl ?_
        refine q_iret F hr_ dX11_shut_68 (hp_ _ _ ⟨congrArg (fun z => some (Value.int z)) ?_, ?_⟩)
        · simp [shuM, bI, *]
        · simp [shuM, *]
    · skip
      have hb_16 := bI_1 h_16
      refine q_iconst F dX11_shut_19 (v := nI 1) (by decide) ?_
      refine q_goto F (tgt := 24) dX11_shut_20 (by decide) ?_
      refine q_istore_n F (lv' := [(3, .int (nI 1)), (0, .ref (a 32)), (1, .int (nI j)), (2, .int z)]) dX11_shut_24 (by decide) rfl ?_
      refine q_aload_n F 1 dX11_shut_25 rfl ?_
      refine q_get F (ci := 11) (j := 7) (List.mem_append_left _ (List.mem_of_getElem? (i := 0) rfl)) rfl hi11 (by decide) hf13_11 rfl rfl dX11_shut_26 ?_
      refine q_bipush F dX11_shut_29 (v := nI 8) (by decide) ?_
      refine q_iload_n F 2 dX11_shut_31 rfl ?_
      refine q_imul F dX11_shut_32 ?_
      refine q_toi (nI (8 * j)) (pk_mul _ _) ?_
      refine q_iconst F dX11_shut_33 (v := nI 4) (by decide) ?_
      refine q_iadd F dX11_shut_34 ?_
      refine q_toi (nI (8 * j + 4)) (nI_add _ _) ?_
      refine q_iload_n F 3 dX11_shut_35 rfl ?_
      refine q_if_ne F (tgt := 43) dX11_shut_36 (by decide) (fun h_36 => ?_) (fun h_36 => ?_)
      · skip
        refine q_iload_n F 0 dX11_shut_43 rfl ?_
        refine q_iconst F dX11_shut_44 (v := nI 1) (by decide) ?_
        refine q_icmp_ne F (tgt := 62) dX11_shut_45 (by decide) (fun h_45 => ?_) (fun h_45 => ?_)
        · skip
          exact absurd h_45 (by decide)
        · skip
          refine q_aload_n F 1 dX11_shut_48 rfl ?_
          refine q_get F (ci := 11) (j := 7) (List.mem_append_left _ (List.mem_of_getElem? (i := 0) rfl)) rfl hi11 (by decide) hf13_11 rfl rfl dX11_shut_49 ?_
          refine q_bipush F dX11_shut_52 (v := nI 8) (by decide) ?_
          refine q_iload_n F 2 dX11_shut_54 rfl ?_
          refine q_imul F dX11_shut_55 ?_
          refine q_toi (nI (8 * j)) (pk_mul _ _) ?_
          refine q_iconst F dX11_shut_56 (v := nI 4) (by decide) ?_
          refine q_iadd F dX11_shut_57 ?_
          refine q_toi (nI (8 * j + 4)) (nI_add _ _) ?_
          refine q_iald F (List.mem_append_left _ (List.mem_of_getElem? (i := 2) rfl)) (8 * j + 4) rfl (by omega) (by decide) dX11_shut_58 ?_
          refine q_goto F (tgt := 66) dX11_shut_59 (by decide) ?_
          refine q_iast F 2 rfl (8 * j + 4) rfl (by omega) (by decide) dX11_shut_66 (ws' := mC E a f hh (va_up A 7 (upd (A 7) (8 * j + 4) (A 7 (8 * j + 4)))) ++ tl) rfl ?_
          refine q_iload_n F 0 dX11_shut_67 rfl ?_
          refine q_iret F hr_ dX11_shut_68 (hp_ _ _ ⟨congrArg (fun z => some (Value.int z)) ?_, ?_⟩)
          · simp [shuM, bI, *]
          · simp [shuM, *]
      · skip
        refine q_iconst F dX11_shut_39 (v := (-1)) (by decide) ?_
        refine q_goto F (tgt := 66) dX11_shut_40 (by decide) ?_
        refine q_iast F 2 rfl (8 * j + 4) rfl (by omega) (by decide) dX11_shut_66 (ws' := mC E a f hh (va_up A 7 (upd (A 7) (8 * j + 4) (-1))) ++ tl) rfl ?_
        refine q_iload_n F 0 dX11_shut_67 rfl ?_
        refine q_iret F hr_ dX11_shut_68 (hp_ _ _ ⟨congrArg (fun z => some (Value.int z)) ?_, ?_⟩)
        · simp [shuM, bI, *]
        · simp [shuM, *]
  · skip
    have hb_5 := bI_0 h_5
    refine q_bipush F dX11_shut_8 (v := (-101)) (by decide) ?_
    refine q_iret F hr_ dX11_shut_10 (hp_ _ _ ⟨congrArg (fun z => some (Value.int z)) ?_, ?_⟩)
    · simp [shuM, bI, *]
    · simp [shuM, *]

set_option maxHeartbeats 4000000 in
set_option maxRecDepth 100000 in
theorem c_X11_lay (l : Launch) (E : gEnv) (a : Nat → Nat) (f : Nat → Int32) (hh : Int64) (A : Nat → Nat → Int32) (tl : va_W) (T : gTown) (hm : f 2 = nI (tN T)) (hn : tN T ≤ 6) (x : Int32) : Cn l E yX11_lay wsX11_lay (rmL 1 0 0) [.ref (a 32), .int x] (mC E a f hh A ++ tl) 0 0 (fun v w => v = some (.int (layM T f x).1) ∧ w = mC E a ((layM T f x).2) hh A ++ tl) := by
  refine Cn.of (own := RX11) (cc := cX11_lay) (maxL := 3) (ret := (some .int)) (lv := [(0, .ref (a 32)), (1, .int x)]) (by decide) rfl rfl (Nat.le_of_ble_eq_true rfl) rfl ?_
  intro p_ e_ s_ m_ args_ below_ meth_ c_ A_ P_ hp_ F hr_ hnm_
  have hk57 : Cond.constantLong RX11 57 (9) ∈ wsX11_lay := by decide +kernel
  have hd_X11_in : yX11_in.cls ≠ "java/lang/invoke/MethodHandle" ∧ yX11_in.cls ≠ "java/lang/invoke/VarHandle" ∧ (parseMethodDescriptor yX11_in.desc).map (fun d => d.parameters.length) = some 3 := by decide +kernel
  have hd_X11_lacks : yX11_lacks.cls = RX11 ∧ yX11_lacks.cls ≠ "java/lang/invoke/MethodHandle" ∧ yX11_lacks.cls ≠ "java/lang/invoke/VarHandle" ∧ (parseMethodDescriptor yX11_lacks.desc).map (fun d => d.parameters.length) = some 0 := by decide +kernel
  have hf70_11 : Cond.fieldLink RX11 70 "KeyOnStreetModel" (TX11 3).2.1 (TX11 3).2.2.1 ∈ wsX11_lay := by decide +kernel
  have hi11 : ∀ w ∈ u_ws RX11 TX11 32, w ∈ wsX11_lay := by decide +kernel
  have hf73_11 : Cond.fieldLink RX11 73 "KeyOnStreetModel" (TX11 4).2.1 (TX11 4).2.2.1 ∈ wsX11_lay := by decide +kernel
  refine q_iload_n F 1 dX11_lay_0 rfl ?_
  refine q_i2l F dX11_lay_1 ?_
  refine q_lconst F dX11_lay_2 (v := 0) (by decide) ?_
  refine q_ldc2 F hk57 dX11_lay_3 ?_
  refine q_callS F (As := [.long x.toInt64, .long (0 : Int64), .long (9 : Int64)]) (rest := []) (c_X11_in l E (mC E a f hh A ++ tl) x.toInt64 (0 : Int64) (9 : Int64)) (List.Perm.refl _) gX11_lay_X11_in rfl rfl rfl hd_X11_in ⟨by decide, by decide⟩ rfl (Nat.le_of_ble_eq_true rfl) dX11_lay_6 ⟨by decide, by decide⟩ (fun v_ w_ hvw => ?_)
  rw [hvw.1, hvw.2]
  clear hvw
  refine q_at (pc' := 9) (st' := [.int (bI (inL x.toInt64 (0 : Int64) (9 : Int64)))]) (ws' := mC E a f hh A ++ tl) (k' := 0) (n' := 0) rfl rfl rfl rfl rfl ?_
  refine q_toi (bI (inI x (nI 0) (nI 9))) (congrArg bI (inL_I (by decide) (by decide))) ?_
  refine q_if_ne F (tgt := 15) dX11_lay_9 (by decide) (fun h_9 => ?_) (fun h_9 => ?_)
  · skip
    have hb_9 := bI_1 h_9
    refine q_aload_n F 0 dX11_lay_15 rfl ?_
    refine q_callV F (ci := 11) (As := []) (rest := []) (List.mem_append_left _ (List.mem_of_getElem? (i := 0) rfl)) rfl (c_X11_lacks l E a f hh A tl T hm hn ) (List.Perm.refl _) gX11_lay_X11_lacks rfl rfl rfl hd_X11_lacks ⟨by decide, by decide⟩ rfl (Nat.le_of_ble_eq_true rfl) dX11_lay_16 ⟨by decide, by decide⟩ (fun v_ w_ hvw => ?_)
    rw [hvw.1, hvw.2]
    clear hvw
    refine q_at (pc' := 19) (st' := [.int (bI (decide (tN T = 0)))]) (ws' := mC E a f hh A ++ tl) (k' := 0) (n' := 0) rfl rfl rfl rfl rfl ?_
    refine q_if_eq F (tgt := 25) dX11_lay_19 (by decide) (fun h_19 => ?_) (fun h_19 => ?_)
    · skip
      have hb_19 := bI_0 h_19
      refine q_aload_n F 0 dX11_lay_25 rfl ?_
      refine q_get F (ci := 11) (j := 3) (List.mem_append_left _ (List.mem_of_getElem? (i := 0) rfl)) rfl hi11 (by decide) hf70_11 rfl rfl dX11_lay_26 ?_
      refine q_istore_n F (lv' := [(2, .int (f 3)), (0, .ref (a 32)), (1, .int x)]) dX11_lay_29 (by decide) rfl ?_
      refine q_aload_n F 1 dX11_lay_30 rfl ?_
      refine q_iload_n F 2 dX11_lay_31 rfl ?_
      refine q_put F (j := 3) 0 rfl rfl hi11 tyX11 tyX11_ok nmX11 (by decide) hf70_11 rfl rfl rfl rfl (Nat.le_of_ble_eq_true rfl) dX11_lay_32 (ws' := mC E a (upd f 3 x) hh A ++ tl) rfl ?_
      refine q_aload_n F 1 dX11_lay_35 rfl ?_
      refine q_iconst F dX11_lay_36 (v := nI 0) (by decide) ?_
      refine q_put F (j := 4) 0 rfl rfl hi11 tyX11 tyX11_ok nmX11 (by decide) hf73_11 rfl rfl rfl rfl (Nat.le_of_ble_eq_true rfl) dX11_lay_37 (ws' := mC E a (upd (upd f 3 x) 4 (nI 0)) hh A ++ tl) rfl ?_
      refine q_iload_n F 0 dX11_lay_40 rfl ?_
      refine q_iret F hr_ dX11_lay_41 (hp_ _ _ ⟨congrArg (fun z => some (Value.int z)) ?_, ?_⟩)
      · simp_all [layM]
      · simp_all [layM]
    · skip
      have hb_19 := bI_1 h_19
      refine q_bipush F dX11_lay_22 (v := (-103)) (by decide) ?_
      refine q_iret F hr_ dX11_lay_24 (hp_ _ _ ⟨congrArg (fun z => some (Value.int z)) ?_, ?_⟩)
      · simp_all [layM]
      · simp_all [layM]
  · skip
    have hb_9 := bI_0 h_9
    refine q_bipush F dX11_lay_12 (v := (-102)) (by decide) ?_
    refine q_iret F hr_ dX11_lay_14 (hp_ _ _ ⟨congrArg (fun z => some (Value.int z)) ?_, ?_⟩)
    · simp_all [layM]
    · simp_all [layM]

set_option maxHeartbeats 4000000 in
set_option maxRecDepth 100000 in
theorem c_X11_pass (l : Launch) (E : gEnv) (a : Nat → Nat) (f : Nat → Int32) (hh : Int64) (A : Nat → Nat → Int32) (tl : va_W) (T : gTown) (hm : f 2 = nI (tN T)) (hn : tN T ≤ 6) (x : Int32) : Cn l E yX11_pass wsX11_pass (rmL 1 0 0) [.ref (a 32), .int x] (mC E a f hh A ++ tl) 0 0 (fun v w => v = some (.int (pasM T f x).1) ∧ w = mC E a ((pasM T f x).2) hh A ++ tl) := by
  refine Cn.of (own := RX11) (cc := cX11_pass) (maxL := 2) (ret := (some .int)) (lv := [(0, .ref (a 32)), (1, .int x)]) (by decide) rfl rfl (Nat.le_of_ble_eq_true rfl) rfl ?_
  intro p_ e_ s_ m_ args_ below_ meth_ c_ A_ P_ hp_ F hr_ hnm_
  have hk100 : Cond.constantLong RX11 100 (30) ∈ wsX11_pass := by decide +kernel
  have hd_X11_in : yX11_in.cls ≠ "java/lang/invoke/MethodHandle" ∧ yX11_in.cls ≠ "java/lang/invoke/VarHandle" ∧ (parseMethodDescriptor yX11_in.desc).map (fun d => d.parameters.length) = some 3 := by decide +kernel
  have hd_X11_lacks : yX11_lacks.cls = RX11 ∧ yX11_lacks.cls ≠ "java/lang/invoke/MethodHandle" ∧ yX11_lacks.cls ≠ "java/lang/invoke/VarHandle" ∧ (parseMethodDescriptor yX11_lacks.desc).map (fun d => d.parameters.length) = some 0 := by decide +kernel
  have hf76_11 : Cond.fieldLink RX11 76 "KeyOnStreetModel" (TX11 5).2.1 (TX11 5).2.2.1 ∈ wsX11_pass := by decide +kernel
  have hi11 : ∀ w ∈ u_ws RX11 TX11 32, w ∈ wsX11_pass := by decide +kernel
  refine q_iload_n F 1 dX11_pass_0 rfl ?_
  refine q_i2l F dX11_pass_1 ?_
  refine q_lconst F dX11_pass_2 (v := 1) (by decide) ?_
  refine q_ldc2 F hk100 dX11_pass_3 ?_
  refine q_callS F (As := [.long x.toInt64, .long (1 : Int64), .long (30 : Int64)]) (rest := []) (c_X11_in l E (mC E a f hh A ++ tl) x.toInt64 (1 : Int64) (30 : Int64)) (List.Perm.refl _) gX11_pass_X11_in rfl rfl rfl hd_X11_in ⟨by decide, by decide⟩ rfl (Nat.le_of_ble_eq_true rfl) dX11_pass_6 ⟨by decide, by decide⟩ (fun v_ w_ hvw => ?_)
  rw [hvw.1, hvw.2]
  clear hvw
  refine q_at (pc' := 9) (st' := [.int (bI (inL x.toInt64 (1 : Int64) (30 : Int64)))]) (ws' := mC E a f hh A ++ tl) (k' := 0) (n' := 0) rfl rfl rfl rfl rfl ?_
  refine q_toi (bI (inI x (nI 1) (nI 30))) (congrArg bI (inL_I (by decide) (by decide))) ?_
  refine q_if_ne F (tgt := 15) dX11_pass_9 (by decide) (fun h_9 => ?_) (fun h_9 => ?_)
  · skip
    have hb_9 := bI_1 h_9
    refine q_aload_n F 0 dX11_pass_15 rfl ?_
    refine q_callV F (ci := 11) (As := []) (rest := []) (List.mem_append_left _ (List.mem_of_getElem? (i := 0) rfl)) rfl (c_X11_lacks l E a f hh A tl T hm hn ) (List.Perm.refl _) gX11_pass_X11_lacks rfl rfl rfl hd_X11_lacks ⟨by decide, by decide⟩ rfl (Nat.le_of_ble_eq_true rfl) dX11_pass_16 ⟨by decide, by decide⟩ (fun v_ w_ hvw => ?_)
    rw [hvw.1, hvw.2]
    clear hvw
    refine q_at (pc' := 19) (st' := [.int (bI (decide (tN T = 0)))]) (ws' := mC E a f hh A ++ tl) (k' := 0) (n' := 0) rfl rfl rfl rfl rfl ?_
    refine q_if_ne F (tgt := 34) dX11_pass_19 (by decide) (fun h_19 => ?_) (fun h_19 => ?_)
    · skip
      have hb_19 := bI_1 h_19
      refine q_bipush F dX11_pass_34 (v := (-103)) (by decide) ?_
      refine q_iret F hr_ dX11_pass_36 (hp_ _ _ ⟨congrArg (fun z => some (Value.int z)) ?_, ?_⟩)
      · simp_all [pasM, upd]
      · simp_all [pasM]
    · skip
      have hb_19 := bI_0 h_19
      refine q_aload_n F 0 dX11_pass_22 rfl ?_
      refine q_get F (ci := 11) (j := 5) (List.mem_append_left _ (List.mem_of_getElem? (i := 0) rfl)) rfl hi11 (by decide) hf76_11 rfl rfl dX11_pass_23 ?_
      refine q_iload_n F 1 dX11_pass_26 rfl ?_
      refine q_iadd F dX11_pass_27 ?_
      refine q_sipush F dX11_pass_28 (v := nI 999) (by decide) ?_
      refine q_icmp_le F (tgt := 37) dX11_pass_31 (by decide) (fun h_31 => ?_) (fun h_31 => ?_)
      · skip
        have hz_31 := Int32.not_lt.mpr h_31
        refine q_aload_n F 0 dX11_pass_37 rfl ?_
        refine q_dup F dX11_pass_38 rfl ?_
        refine q_get F (ci := 11) (j := 5) (List.mem_append_left _ (List.mem_of_getElem? (i := 0) rfl)) rfl hi11 (by decide) hf76_11 rfl rfl dX11_pass_39 ?_
        refine q_iload_n F 1 dX11_pass_42 rfl ?_
        refine q_iadd F dX11_pass_43 ?_
        refine q_put F (j := 5) 0 rfl rfl hi11 tyX11 tyX11_ok nmX11 (by decide) hf76_11 rfl rfl rfl rfl (Nat.le_of_ble_eq_true rfl) dX11_pass_44 (ws' := mC E a (upd f 5 ((f 5) + x)) hh A ++ tl) rfl ?_
        refine q_aload_n F 0 dX11_pass_47 rfl ?_
        refine q_get F (ci := 11) (j := 5) (List.mem_append_left _ (List.mem_of_getElem? (i := 0) rfl)) rfl hi11 (by decide) hf76_11 rfl rfl dX11_pass_48 ?_
        refine q_iret F hr_ dX11_pass_51 (hp_ _ _ ⟨congrArg (fun z => some (Value.int z)) ?_, ?_⟩)
        · simp_all [pasM, upd]
        · simp_all [pasM]
      · skip
        have hz_31 := Int32.not_le.mp h_31
        refine q_bipush F dX11_pass_34 (v := (-103)) (by decide) ?_
        refine q_iret F hr_ dX11_pass_36 (hp_ _ _ ⟨congrArg (fun z => some (Value.int z)) ?_, ?_⟩)
        · simp_all [pasM, upd]
        · simp_all [pasM]
  · skip
    have hb_9 := bI_0 h_9
    refine q_bipush F dX11_pass_12 (v := (-102)) (by decide) ?_
    refine q_iret F hr_ dX11_pass_14 (hp_ _ _ ⟨congrArg (fun z => some (Value.int z)) ?_, ?_⟩)
    · simp_all [pasM, upd]
    · simp_all [pasM]

set_option maxHeartbeats 4000000 in
set_option maxRecDepth 100000 in
theorem c_X11_see (l : Launch) (E : gEnv) (a : Nat → Nat) (f : Nat → Int32) (hh : Int64) (A : Nat → Nat → Int32) (tl : va_W) (T : gTown) (hm : f 2 = nI (tN T)) (hn : tN T ≤ 6) (k : Nat) (h20 : f 20 = nI k) (hk : k ≤ 6) (x y z : Int32) : Cn l E yX11_see wsX11_see (rmL 2 0 0) [.ref (a 32), .int x, .int y, .int z] (mC E a f hh A ++ tl) 0 0 (fun v w => v = some (.int (seeM T f A x y z).1) ∧ w = mC E a ((seeM T f A x y z).2.1) hh ((seeM T f A x y z).2.2) ++ tl) := by
  refine Cn.of (own := RX11) (cc := cX11_see) (maxL := 4) (ret := (some .int)) (lv := [(0, .ref (a 32)), (1, .int x), (2, .int y), (3, .int z)]) (by decide) rfl rfl (Nat.le_of_ble_eq_true rfl) rfl ?_
  intro p_ e_ s_ m_ args_ below_ meth_ c_ A_ P_ hp_ F hr_ hnm_
  have hd_X11_isHouse : yX11_isHouse.cls = RX11 ∧ yX11_isHouse.cls ≠ "java/lang/invoke/MethodHandle" ∧ yX11_isHouse.cls ≠ "java/lang/invoke/VarHandle" ∧ (parseMethodDescriptor yX11_isHouse.desc).map (fun d => d.parameters.length) = some 1 := by decide +kernel
  have hk190 : Cond.constantLong RX11 190 (999) ∈ wsX11_see := by decide +kernel
  have hd_X11_in : yX11_in.cls ≠ "java/lang/invoke/MethodHandle" ∧ yX11_in.cls ≠ "java/lang/invoke/VarHandle" ∧ (parseMethodDescriptor yX11_in.desc).map (fun d => d.parameters.length) = some 3 := by decide +kernel
  have hf79_11 : Cond.fieldLink RX11 79 "KeyOnStreetModel" (TX11 20).2.1 (TX11 20).2.2.1 ∈ wsX11_see := by decide +kernel
  have hi11 : ∀ w ∈ u_ws RX11 TX11 32, w ∈ wsX11_see := by decide +kernel
  have hf28_11 : Cond.fieldLink RX11 28 "KeyOnStreetModel" (TX11 21).2.1 (TX11 21).2.2.1 ∈ wsX11_see := by decide +kernel
  have hc1 : (nI k).toNatClampNeg = k := nI_clamp (by omega)
  refine q_aload_n F 0 dX11_see_0 rfl ?_
  refine q_iload_n F 1 dX11_see_1 rfl ?_
  refine q_callV F (ci := 11) (As := [.int x]) (rest := []) (List.mem_append_left _ (List.mem_of_getElem? (i := 0) rfl)) rfl (c_X11_isHouse l E a f hh A tl T hm hn x) (List.Perm.refl _) gX11_see_X11_isHouse rfl rfl rfl hd_X11_isHouse ⟨by decide, by decide⟩ rfl (Nat.le_of_ble_eq_true rfl) dX11_see_2 ⟨by decide, by decide⟩ (fun v_ w_ hvw => ?_)
  rw [hvw.1, hvw.2]
  clear hvw
  refine q_at (pc' := 5) (st' := [.int (bI (hsB (tN T) x))]) (ws' := mC E a f hh A ++ tl) (k' := 0) (n' := 0) rfl rfl rfl rfl rfl ?_
  refine q_if_ne F (tgt := 11) dX11_see_5 (by decide) (fun h_5 => ?_) (fun h_5 => ?_)
  · skip
    have hb_5 := bI_1 h_5
    refine q_iload_n F 2 dX11_see_11 rfl ?_
    refine q_i2l F dX11_see_12 ?_
    refine q_lconst F dX11_see_13 (v := 0) (by decide) ?_
    refine q_ldc2 F hk190 dX11_see_14 ?_
    refine q_callS F (As := [.long y.toInt64, .long (0 : Int64), .long (999 : Int64)]) (rest := []) (c_X11_in l E (mC E a f hh A ++ tl) y.toInt64 (0 : Int64) (999 : Int64)) (List.Perm.refl _) gX11_see_X11_in rfl rfl rfl hd_X11_in ⟨by decide, by decide⟩ rfl (Nat.le_of_ble_eq_true rfl) dX11_see_17 ⟨by decide, by decide⟩ (fun v_ w_ hvw => ?_)
    rw [hvw.1, hvw.2]
    clear hvw
    refine q_at (pc' := 20) (st' := [.int (bI (inL y.toInt64 (0 : Int64) (999 : Int64)))]) (ws' := mC E a f hh A ++ tl) (k' := 0) (n' := 0) rfl rfl rfl rfl rfl ?_
    refine q_toi (bI (inI y (nI 0) (nI 999))) (congrArg bI (inL_I (by decide) (by decide))) ?_
    refine q_if_ne F (tgt := 26) dX11_see_20 (by decide) (fun h_20 => ?_) (fun h_20 => ?_)
    · skip
      have hb_20 := bI_1 h_20
      refine q_aload_n F 0 dX11_see_26 rfl ?_
      refine q_get F (ci := 11) (j := 20) (List.mem_append_left _ (List.mem_of_getElem? (i := 0) rfl)) rfl hi11 (by decide) hf79_11 rfl rfl dX11_see_27 ?_
      refine q_toi (nI k) (h20) ?_
      refine q_bipush F dX11_see_30 (v := nI 6) (by decide) ?_
      refine q_icmp_ne F (tgt := 38) dX11_see_32 (by decide) (fun h_32 => ?_) (fun h_32 => ?_)
      · skip
        have hn_32 : k ≠ 6 := nf_ne_t (by omega) (by omega) h_32
        refine q_aload_n F 0 dX11_see_38 rfl ?_
        refine q_get F (ci := 11) (j := 21) (List.mem_append_left _ (List.mem_of_getElem? (i := 0) rfl)) rfl hi11 (by decide) hf28_11 rfl rfl dX11_see_39 ?_
        refine q_iconst F dX11_see_42 (v := nI 3) (by decide) ?_
        refine q_aload_n F 0 dX11_see_43 rfl ?_
        refine q_get F (ci := 11) (j := 20) (List.mem_append_left _ (List.mem_of_getElem? (i := 0) rfl)) rfl hi11 (by decide) hf79_11 rfl rfl dX11_see_44 ?_
        refine q_toi (nI k) (h20) ?_
        refine q_imul F dX11_see_47 ?_
        refine q_toi (nI (3 * k)) (pk_mul _ _) ?_
        refine q_iload_n F 1 dX11_see_48 rfl ?_
        refine q_iast F 7 rfl (3 * k) rfl (by omega) (by decide) dX11_see_49 (ws' := mC E a f hh (va_up A 21 (upd (A 21) (3 * k) x)) ++ tl) rfl ?_
        refine q_aload_n F 0 dX11_see_50 rfl ?_
        refine q_get F (ci := 11) (j := 21) (List.mem_append_left _ (List.mem_of_getElem? (i := 0) rfl)) rfl hi11 (by decide) hf28_11 rfl rfl dX11_see_51 ?_
        refine q_iconst F dX11_see_54 (v := nI 3) (by decide) ?_
        refine q_aload_n F 0 dX11_see_55 rfl ?_
        refine q_get F (ci := 11) (j := 20) (List.mem_append_left _ (List.mem_of_getElem? (i := 0) rfl)) rfl hi11 (by decide) hf79_11 rfl rfl dX11_see_56 ?_
        refine q_toi (nI k) (h20) ?_
        refine q_imul F dX11_see_59 ?_
        refine q_toi (nI (3 * k)) (pk_mul _ _) ?_
        refine q_iconst F dX11_see_60 (v := nI 1) (by decide) ?_
        refine q_iadd F dX11_see_61 ?_
        refine q_toi (nI (3 * k + 1)) (nI_add _ _) ?_
        refine q_iload_n F 2 dX11_see_62 rfl ?_
        refine q_iast F 7 rfl (3 * k + 1) rfl (by omega) (by decide) dX11_see_63 (ws' := mC E a f hh (va_up A 21 (upd (upd (A 21) (3 * k) x) (3 * k + 1) y)) ++ tl) rfl ?_
        refine q_aload_n F 0 dX11_see_64 rfl ?_
        refine q_get F (ci := 11) (j := 21) (List.mem_append_left _ (List.mem_of_getElem? (i := 0) rfl)) rfl hi11 (by decide) hf28_11 rfl rfl dX11_see_65 ?_
        refine q_iconst F dX11_see_68 (v := nI 3) (by decide) ?_
        refine q_aload_n F 0 dX11_see_69 rfl ?_
        refine q_get F (ci := 11) (j := 20) (List.mem_append_left _ (List.mem_of_getElem? (i := 0) rfl)) rfl hi11 (by decide) hf79_11 rfl rfl dX11_see_70 ?_
        refine q_toi (nI k) (h20) ?_
        refine q_imul F dX11_see_73 ?_
        refine q_toi (nI (3 * k)) (pk_mul _ _) ?_
        refine q_iconst F dX11_see_74 (v := nI 2) (by decide) ?_
        refine q_iadd F dX11_see_75 ?_
        refine q_toi (nI (3 * k + 2)) (nI_add _ _) ?_
        refine q_iload_n F 3 dX11_see_76 rfl ?_
        refine q_if_eq F (tgt := 84) dX11_see_77 (by decide) (fun h_77 => ?_) (fun h_77 => ?_)
        · skip
          refine q_iconst F dX11_see_84 (v := nI 0) (by decide) ?_
          refine q_iast F 7 rfl (3 * k + 2) rfl (by omega) (by decide) dX11_see_85 (ws' := mC E a f hh (va_up A 21 (upd (upd (upd (A 21) (3 * k) x) (3 * k + 1) y) (3 * k + 2) (nI 0))) ++ tl) rfl ?_
          refine q_aload_n F 0 dX11_see_86 rfl ?_
          refine q_dup F dX11_see_87 rfl ?_
          refine q_get F (ci := 11) (j := 20) (List.mem_append_left _ (List.mem_of_getElem? (i := 0) rfl)) rfl hi11 (by decide) hf79_11 rfl rfl dX11_see_88 ?_
          refine q_toi (nI k) (h20) ?_
          refine q_iconst F dX11_see_91 (v := nI 1) (by decide) ?_
          refine q_iadd F dX11_see_92 ?_
          refine q_toi (nI (k + 1)) (nI_add _ _) ?_
          refine q_put F (j := 20) 0 rfl rfl hi11 tyX11 tyX11_ok nmX11 (by decide) hf79_11 rfl rfl rfl rfl (Nat.le_of_ble_eq_true rfl) dX11_see_93 (ws' := mC E a (upd f 20 (nI (k + 1))) hh (va_up A 21 (upd (upd (upd (A 21) (3 * k) x) (3 * k + 1) y) (3 * k + 2) (nI 0))) ++ tl) rfl ?_
          refine q_aload_n F 0 dX11_see_96 rfl ?_
          refine q_get F (ci := 11) (j := 20) (List.mem_append_left _ (List.mem_of_getElem? (i := 0) rfl)) rfl hi11 (by decide) hf79_11 rfl rfl dX11_see_97 ?_
          refine q_iret F hr_ dX11_see_100 (hp_ _ _ ⟨congrArg (fun z => some (Value.int z)) ?_, ?_⟩)
          · simp [seeM, upd, nI_add, *]
          · simp [seeM, nI_add, *]
        · skip
          refine q_iconst F dX11_see_80 (v := nI 1) (by decide) ?_
          refine q_goto F (tgt := 85) dX11_see_81 (by decide) ?_
          refine q_iast F 7 rfl (3 * k + 2) rfl (by omega) (by decide) dX11_see_85 (ws' := mC E a f hh (va_up A 21 (upd (upd (upd (A 21) (3 * k) x) (3 * k + 1) y) (3 * k + 2) (nI 1))) ++ tl) rfl ?_
          refine q_aload_n F 0 dX11_see_86 rfl ?_
          refine q_dup F dX11_see_87 rfl ?_
          refine q_get F (ci := 11) (j := 20) (List.mem_append_left _ (List.mem_of_getElem? (i := 0) rfl)) rfl hi11 (by decide) hf79_11 rfl rfl dX11_see_88 ?_
          refine q_toi (nI k) (h20) ?_
          refine q_iconst F dX11_see_91 (v := nI 1) (by decide) ?_
          refine q_iadd F dX11_see_92 ?_
          refine q_toi (nI (k + 1)) (nI_add _ _) ?_
          refine q_put F (j := 20) 0 rfl rfl hi11 tyX11 tyX11_ok nmX11 (by decide) hf79_11 rfl rfl rfl rfl (Nat.le_of_ble_eq_true rfl) dX11_see_93 (ws' := mC E a (upd f 20 (nI (k + 1))) hh (va_up A 21 (upd (upd (upd (A 21) (3 * k) x) (3 * k + 1) y) (3 * k + 2) (nI 1))) ++ tl) rfl ?_
          refine q_aload_n F 0 dX11_see_96 rfl ?_
          refine q_get F (ci := 11) (j := 20) (List.mem_append_left _ (List.mem_of_getElem? (i := 0) rfl)) rfl hi11 (by decide) hf79_11 rfl rfl dX11_see_97 ?_
          refine q_iret F hr_ dX11_see_100 (hp_ _ _ ⟨congrArg (fun z => some (Value.int z)) ?_, ?_⟩)
          · simp [seeM, upd, nI_add, *]
          · simp [seeM, nI_add, *]
      · skip
        have hn_32 : k = 6 := nf_ne_f (by omega) (by omega) h_32
        refine q_bipush F dX11_see_35 (v := (-104)) (by decide) ?_
        refine q_iret F hr_ dX11_see_37 (hp_ _ _ ⟨congrArg (fun z => some (Value.int z)) ?_, ?_⟩)
        · simp [seeM, upd, nI_add, *]
        · simp [seeM, nI_add, *]
    · skip
      have hb_20 := bI_0 h_20
      refine q_bipush F dX11_see_23 (v := (-102)) (by decide) ?_
      refine q_iret F hr_ dX11_see_25 (hp_ _ _ ⟨congrArg (fun z => some (Value.int z)) ?_, ?_⟩)
      · simp [seeM, upd, nI_add, *]
      · simp [seeM, nI_add, *]
  · skip
    have hb_5 := bI_0 h_5
    refine q_bipush F dX11_see_8 (v := (-101)) (by decide) ?_
    refine q_iret F hr_ dX11_see_10 (hp_ _ _ ⟨congrArg (fun z => some (Value.int z)) ?_, ?_⟩)
    · simp [seeM, upd, nI_add, *]
    · simp [seeM, nI_add, *]
