/-! the rounds' keys, and the search -/
def ksC (kd : Nat → Nat) (P M U : Nat → Int32) : va_W := (List.range 7).map fun i => (kd i, .inr (2, [.int (P i), .int (M i), .int (U i)]))
def ksR (kd : Nat → Nat) (P M U : Nat → Int32) (d : Nat) : va_W := ((List.range 7).filter (fun i => !(i == d))).map fun i => (kd i, .inr (2, [.int (P i), .int (M i), .int (U i)]))
theorem ks_mem {kd : Nat → Nat} {P M U : Nat → Int32} {d : Nat} (h : d < 7) : (kd d, (.inr (2, [.int (P d), .int (M d), .int (U d)]) : va_E)) ∈ ksC kd P M U := List.mem_map.mpr ⟨d, List.mem_range.mpr h, rfl⟩
theorem kr_mem {kd : Nat → Nat} {P M U : Nat → Int32} {d e : Nat} (h : d < 7) (h2 : d ≠ e) : (kd d, (.inr (2, [.int (P d), .int (M d), .int (U d)]) : va_E)) ∈ ksR kd P M U e := List.mem_map.mpr ⟨d, List.mem_filter.mpr ⟨List.mem_range.mpr h, by simp [h2]⟩, rfl⟩
theorem ks_split {kd : Nat → Nat} {P M U : Nat → Int32} {ws : va_W} (d : Nat) (h : d < 7) : (ksC kd P M U ++ ws).Perm (kC (kd d) (P d) (M d) (U d) ++ (ksR kd P M U d ++ ws)) := by
  have e : (ksC kd P M U).Perm (kC (kd d) (P d) (M d) (U d) ++ ksR kd P M U d) := by
    rcases (show d = 0 ∨ d = 1 ∨ d = 2 ∨ d = 3 ∨ d = 4 ∨ d = 5 ∨ d = 6 by omega) with rfl | rfl | rfl | rfl | rfl | rfl | rfl
    · exact List.Perm.refl _
    · exact (List.perm_middle (l₁ := (ksC kd P M U).take 1) (l₂ := (ksC kd P M U).drop 2))
    · exact (List.perm_middle (l₁ := (ksC kd P M U).take 2) (l₂ := (ksC kd P M U).drop 3))
    · exact (List.perm_middle (l₁ := (ksC kd P M U).take 3) (l₂ := (ksC kd P M U).drop 4))
    · exact (List.perm_middle (l₁ := (ksC kd P M U).take 4) (l₂ := (ksC kd P M U).drop 5))
    · exact (List.perm_middle (l₁ := (ksC kd P M U).take 5) (l₂ := (ksC kd P M U).drop 6))
    · exact (List.perm_middle (l₁ := (ksC kd P M U).take 6) (l₂ := (ksC kd P M U).drop 7))
  exact (e.append_right ws).trans (List.Perm.of_eq (List.append_assoc _ _ _))
theorem ksR_cong {kd : Nat → Nat} {P M U P' M' U' : Nat → Int32} {d : Nat} (h : ∀ j, j ≠ d → P j = P' j ∧ M j = M' j ∧ U j = U' j) : ksR kd P M U d = ksR kd P' M' U' d := by
  unfold ksR
  refine List.map_congr_left fun i hi => ?_
  have e : i ≠ d := by have := (List.mem_filter.mp hi).2; simpa using this
  rw [(h i e).1, (h i e).2.1, (h i e).2.2]
theorem ks_join {kd : Nat → Nat} {P M U : Nat → Int32} {ws : va_W} (d : Nat) (h : d < 7) {p m u : Int32} : (kC (kd d) p m u ++ (ksR kd P M U d ++ ws)).Perm (ksC kd (upd P d p) (upd M d m) (upd U d u) ++ ws) := by
  have e := (ks_split (kd := kd) (P := upd P d p) (M := upd M d m) (U := upd U d u) (ws := ws) d h).symm
  have e2 : ksR kd (upd P d p) (upd M d m) (upd U d u) d = ksR kd P M U d := ksR_cong fun j hj => ⟨by simp [upd, hj], by simp [upd, hj], by simp [upd, hj]⟩
  rw [e2, show upd P d p d = p by simp [upd], show upd M d m d = m by simp [upd], show upd U d u d = u by simp [upd]] at e
  exact e
/-- best late, best end, best length, best order -/
abbrev gAc : Type := Int32 × Int32 × Int32 × (Nat → Int32)
def btr (x y bl be : Int32) : Bool := decide (x < bl) || (decide (x = bl) && decide (y < be))
def fN {α : Type} (F : Nat → α → α) : Nat → α → α
  | 0, a => a
  | i + 1, a => F i (fN F i a)
def mB (T : gTown) (mf : Bool) (b : Nat → Bool) : Nat → Bool := if mf then mayS T b else b
def ltC (cl : Bool) (k : Nat) (l n m : Int32) : Int32 := if cl then ltA k l n m else nI 0
/-- the search: fuel, those left, place, minute, kept until, late, depth, the order so far, the best so far -/
def dfC (T : gTown) (cl mf : Bool) : Nat → (Nat → Bool) → Int32 → Int32 → Int32 → Int32 → Nat → (Nat → Int32) → gAc → gAc
  | 0, _, _, _, _, _, _, _, acc => acc
  | m + 1, b, p, mi, u, lt, d, O, acc => if btr lt mi acc.1 acc.2.1 = false then acc else if wb b 6 = 0 then (lt, mi, nI d, fil O acc.2.2.2 d) else fN (fun i a => if mB T mf b i then dfC T cl mf m (clr b i) (tP T i) (brg (tK T i) (tP T i) p mi u) (kpu (tK T i) (brg (tK T i) (tP T i) p mi u)) (lt + ltC cl (tK T i) (tL T i) (tE T i) (brg (tK T i) (tP T i) p mi u)) (d + 1) (upd O d (nI i)) a else a) (tN T) acc
theorem fil_congL {g g' f : Nat → Int32} {d : Nat} (h : ∀ j, j < d → g j = g' j) : fil g f d = fil g' f d := funext fun j => by
  unfold fil
  by_cases q : j < d
  · rw [if_pos q, if_pos q, h j q]
  · rw [if_neg q, if_neg q]
theorem fN_cong {α : Type} {F F' : Nat → α → α} : ∀ {n : Nat} {a : α}, (∀ i b, i < n → F i b = F' i b) → fN F n a = fN F' n a
  | 0, _, _ => rfl
  | n + 1, a, h => by rw [fN, fN, fN_cong (fun i b hi => h i b (Nat.lt_succ_of_lt hi)), h n _ (Nat.lt_succ_self n)]
theorem dfC_congO {T : gTown} {cl mf : Bool} : ∀ {m : Nat} {b : Nat → Bool} {p mi u lt : Int32} {d : Nat} {O O' : Nat → Int32} {acc : gAc}, (∀ j, j < d → O j = O' j) → dfC T cl mf m b p mi u lt d O acc = dfC T cl mf m b p mi u lt d O' acc
  | 0, _, _, _, _, _, _, _, _, _, _ => rfl
  | m + 1, b, p, mi, u, lt, d, O, O', acc, h => by
    rw [dfC, dfC, fil_congL h]
    have e : ∀ (i : Nat) (a : gAc), (if mB T mf b i then dfC T cl mf m (clr b i) (tP T i) (brg (tK T i) (tP T i) p mi u) (kpu (tK T i) (brg (tK T i) (tP T i) p mi u)) (lt + ltC cl (tK T i) (tL T i) (tE T i) (brg (tK T i) (tP T i) p mi u)) (d + 1) (upd O d (nI i)) a else a) = (if mB T mf b i then dfC T cl mf m (clr b i) (tP T i) (brg (tK T i) (tP T i) p mi u) (kpu (tK T i) (brg (tK T i) (tP T i) p mi u)) (lt + ltC cl (tK T i) (tL T i) (tE T i) (brg (tK T i) (tP T i) p mi u)) (d + 1) (upd O' d (nI i)) a else a) := by
      intro i a
      rw [dfC_congO (O := upd O d (nI i)) (O' := upd O' d (nI i)) (fun j hj => by
        simp only [upd]
        by_cases q : j = d
        · rw [if_pos q, if_pos q]
        · rw [if_neg q, if_neg q]; exact h j (by omega))]
    rw [fN_cong (fun i a _ => e i a)]
/-- the class's bits of those that may be opened -/
theorem wb_and6 : ∀ (b0 b1 b2 b3 b4 b5 : Bool) (c0 c1 c2 c3 c4 c5 : Bool), wb (b6 b0 b1 b2 b3 b4 b5) 6 &&& wb (b6 c0 c1 c2 c3 c4 c5) 6 = wb (b6 (b0 && c0) (b1 && c1) (b2 && c2) (b3 && c3) (b4 && c4) (b5 && c5)) 6 := by decide +kernel
theorem wb_and (b c : Nat → Bool) : wb b 6 &&& wb c 6 = wb (fun j => b j && c j) 6 := by rw [wb_6 b, wb_6 c, wb_and6, wb_6 (fun j => b j && c j)]
theorem mwB_wb (T : gTown) : ∀ i, mwB T i = wb (fun j => decide (j < tN T ∧ tK T j = 1)) i
  | 0 => rfl
  | i + 1 => by
    rw [mwB, wb, mwB_wb T i]
    by_cases q : i < tN T ∧ tK T i = 1
    · rw [if_pos q, if_pos (by simp [q])]
    · rw [if_neg q, if_neg (by simp only [decide_eq_true_eq]; exact q)]
theorem mayB_wb (T : gTown) (b : Nat → Bool) : mayB (mwB T 6) (wb b 6) = wb (mayS T b) 6 := by
  unfold mayB mayS
  have e : wb b 6 &&& mwB T 6 = wb (mwS T b) 6 := by
    rw [mwB_wb, wb_and]
    refine wb_cong fun j _ => ?_
    unfold mwS
    by_cases q1 : j < tN T <;> by_cases q2 : tK T j = 1 <;> simp [q1, q2]
  rw [e]
  by_cases q : cnt (mwS T b) 6 = 0
  · rw [if_pos q, if_pos ((wb_0 _).mpr q)]
  · rw [if_neg q, if_neg (fun z => q ((wb_0 _).mp z))]
def dfF (T : gTown) (cl mf : Bool) (m : Nat) (b : Nat → Bool) (p mi u lt : Int32) (d : Nat) (O : Nat → Int32) : Nat → gAc → gAc := fun i a => if mB T mf b i then dfC T cl mf m (clr b i) (tP T i) (brg (tK T i) (tP T i) p mi u) (kpu (tK T i) (brg (tK T i) (tP T i) p mi u)) (lt + ltC cl (tK T i) (tL T i) (tE T i) (brg (tK T i) (tP T i) p mi u)) (d + 1) (upd O d (nI i)) a else a
theorem dfC_s (T : gTown) (cl mf : Bool) (m : Nat) (b : Nat → Bool) (p mi u lt : Int32) (d : Nat) (O : Nat → Int32) (acc : gAc) : dfC T cl mf (m + 1) b p mi u lt d O acc = if btr lt mi acc.1 acc.2.1 = false then acc else if wb b 6 = 0 then (lt, mi, nI d, fil O acc.2.2.2 d) else fN (dfF T cl mf m b p mi u lt d O) (tN T) acc := rfl
theorem mB_sub {T : gTown} {mf : Bool} {b : Nat → Bool} {j : Nat} (h : mB T mf b j = true) : b j = true := by
  unfold mB at h
  cases mf with
  | true => exact mayS_sub h
  | false => exact h
/-- what a search's method does to the rounds' cells -/
def goP (E : gEnv) (r : Nat → Nat) (t0 : Nat) (kd : Nat → Nat) (tl : va_W) (acc : gAc) (x5 x6 : Int32) (d : Nat) (O P M U : Nat → Int32) (v : Option Value) (w : va_W) : Prop := v = none ∧ ∃ (g' O' BO' P' M' U' : Nat → Int32), w = rC E r t0 kd g' O' BO' ++ (ksC kd P' M' U' ++ tl) ∧ ((g' 7, g' 8, g' 4, BO') : gAc) = acc ∧ g' 5 = x5 ∧ g' 6 = x6 ∧ (∀ j, j < d → O' j = O j) ∧ (∀ j, j ≤ d → P' j = P j ∧ M' j = M j ∧ U' j = U j)
def GoK (l : Launch) (E : gEnv) (m : Nat) : Prop := ∀ (r t kd : Nat → Nat) (T : gTown) (g O BO P M U : Nat → Int32) (cl mf : Bool) (b : Nat → Bool) (d : Nat) (lt : Int32) (tl : va_W), isIn (tC E t T) tl → isHs T tl → tN T ≤ 6 → g 5 = bI cl → g 6 = bI mf → (∀ j, b j = true → j < tN T) → cnt b 6 + d ≤ 6 → cnt b 6 < m → Cn l E yX7_goOn wsX7_goOn (rmL (2 * m + 4) 0 0) [.ref (r 0), .int (nI d), .int (wb b 6), .int lt] (rC E r (t 0) kd g O BO ++ (ksC kd P M U ++ tl)) 0 0 (goP E r (t 0) kd tl (dfC T cl mf m b (P d) (M d) (U d) lt d O (g 7, g 8, g 4, BO)) (g 5) (g 6) d O P M U)
def OpK (l : Launch) (E : gEnv) (m : Nat) : Prop := ∀ (r t kd : Nat → Nat) (T : gTown) (g O BO P M U : Nat → Int32) (cl mf : Bool) (b : Nat → Bool) (i d : Nat) (lt : Int32) (tl : va_W), isIn (tC E t T) tl → isHs T tl → tN T ≤ 6 → g 5 = bI cl → g 6 = bI mf → (∀ j, b j = true → j < tN T) → b i = true → cnt b 6 + d ≤ 6 → cnt b 6 ≤ m → Cn l E yX7_openThenGoOn wsX7_openThenGoOn (rmL (2 * m + 5) 0 0) [.ref (r 0), .int (nI i), .int (nI d), .int (wb b 6), .int lt] (rC E r (t 0) kd g O BO ++ (ksC kd P M U ++ tl)) 0 0 (goP E r (t 0) kd tl (dfC T cl mf m (clr b i) (tP T i) (brg (tK T i) (tP T i) (P d) (M d) (U d)) (kpu (tK T i) (brg (tK T i) (tP T i) (P d) (M d) (U d))) (lt + ltC cl (tK T i) (tL T i) (tE T i) (brg (tK T i) (tP T i) (P d) (M d) (U d))) (d + 1) (upd O d (nI i)) (g 7, g 8, g 4, BO)) (g 5) (g 6) d O P M U)
def skP (E : gEnv) (r : Nat → Nat) (t0 : Nat) (kd : Nat → Nat) (tl : va_W) (acc : gAc) (x5 x6 : Int32) (rv : Option Value) (v : Option Value) (w : va_W) : Prop := v = rv ∧ ∃ (g' O' BO' P' M' U' : Nat → Int32), w = rC E r t0 kd g' O' BO' ++ (ksC kd P' M' U' ++ tl) ∧ ((g' 7, g' 8, g' 4, BO') : gAc) = acc ∧ g' 5 = x5 ∧ g' 6 = x6
/-- those that are shut out, of six -/
def shN (f : Nat → Int32) : Nat → Bool := fun j => outB f j && decide (j < 6)
theorem shN_wt (f : Nat → Int32) : wtB f 6 = wb (shN f) 6 := by
  rw [wtB_wb]
  exact wb_cong fun j hj => by simp [shN, hj]
def okN (T : gTown) (f : Nat → Int32) : Prop := ∀ j, tN T ≤ j → j < 6 → f j = (-1)
theorem shN_lt {T : gTown} {f : Nat → Int32} (h : okN T f) : ∀ j, shN f j = true → j < tN T := fun j hj => by
  unfold shN at hj
  simp only [Bool.and_eq_true, decide_eq_true_eq] at hj
  rcases Nat.lt_or_ge j (tN T) with q | q
  · exact q
  · exact absurd (h j q hj.2) (outB_t hj.1)
/-- the best so far, at first -/
def ac0 (BO : Nat → Int32) : gAc := (nI 2147483647, nI 2147483647, nI 0, BO)
set_option maxHeartbeats 4000000 in
set_option maxRecDepth 100000 in
theorem c_X7_isBetter (l : Launch) (E : gEnv) (r : Nat → Nat) (t0 : Nat) (kd : Nat → Nat) (g O BO : Nat → Int32) (ws : va_W) (hRd : isIn (rC E r t0 kd g O BO) ws) (x y : Int32) : Cn l E yX7_isBetter wsX7_isBetter (rmL 0 0 0) [.ref (r 0), .int x, .int y] (ws) 0 0 (fun v w => v = some (.int (bI (btr x y (g 7) (g 8)))) ∧ w = ws) := by
  refine Cn.of (own := RX7) (cc := cX7_isBetter) (maxL := 3) (ret := (some .boolean)) (lv := [(0, .ref (r 0)), (1, .int x), (2, .int y)]) (by decide) rfl rfl (Nat.le_of_ble_eq_true rfl) rfl ?_
  intro p_ e_ s_ m_ args_ below_ meth_ c_ A_ P_ hp_ F hr_ hnm_
  have hf70_7 : Cond.fieldLink RX7 70 "KeyOnStreet$Rounds" (TX7 7).2.1 (TX7 7).2.2.1 ∈ wsX7_isBetter := by decide +kernel
  have hi7 : ∀ w ∈ u_ws RX7 TX7 9, w ∈ wsX7_isBetter := by decide +kernel
  have hf54_7 : Cond.fieldLink RX7 54 "KeyOnStreet$Rounds" (TX7 8).2.1 (TX7 8).2.2.1 ∈ wsX7_isBetter := by decide +kernel
  refine q_iload_n F 1 dX7_isBetter_0 rfl ?_
  refine q_aload_n F 0 dX7_isBetter_1 rfl ?_
  refine q_get F (ci := 7) (j := 7) (v := .int (g 7)) (hRd _ (List.mem_of_getElem? (i := 0) rfl)) rfl hi7 (by decide) hf70_7 rfl rfl dX7_isBetter_2 ?_
  refine q_icmp_lt F (tgt := 24) dX7_isBetter_5 (by decide) (fun h_5 => ?_) (fun h_5 => ?_)
  · skip
    have hz_5 := Int32.not_le.mpr h_5
    refine q_iconst F dX7_isBetter_24 (v := nI 1) (by decide) ?_
    refine q_goto F (tgt := 29) dX7_isBetter_25 (by decide) ?_
    refine q_zret F hr_ (by decide) dX7_isBetter_29 (hp_ _ _ ⟨congrArg (fun z => some (Value.int z)) ?_, ?_⟩)
    · simp [btr, bI, *]
    · rfl
  · skip
    have hz_5 := Int32.not_lt.mp h_5
    refine q_iload_n F 1 dX7_isBetter_8 rfl ?_
    refine q_aload_n F 0 dX7_isBetter_9 rfl ?_
    refine q_get F (ci := 7) (j := 7) (v := .int (g 7)) (hRd _ (List.mem_of_getElem? (i := 0) rfl)) rfl hi7 (by decide) hf70_7 rfl rfl dX7_isBetter_10 ?_
    refine q_icmp_ne F (tgt := 28) dX7_isBetter_13 (by decide) (fun h_13 => ?_) (fun h_13 => ?_)
    · skip
      refine q_iconst F dX7_isBetter_28 (v := nI 0) (by decide) ?_
      refine q_zret F hr_ (by decide) dX7_isBetter_29 (hp_ _ _ ⟨congrArg (fun z => some (Value.int z)) ?_, ?_⟩)
      · simp [btr, bI, *]
      · rfl
    · skip
      refine q_iload_n F 2 dX7_isBetter_16 rfl ?_
      refine q_aload_n F 0 dX7_isBetter_17 rfl ?_
      refine q_get F (ci := 7) (j := 8) (v := .int (g 8)) (hRd _ (List.mem_of_getElem? (i := 0) rfl)) rfl hi7 (by decide) hf54_7 rfl rfl dX7_isBetter_18 ?_
      refine q_icmp_ge F (tgt := 28) dX7_isBetter_21 (by decide) (fun h_21 => ?_) (fun h_21 => ?_)
      · skip
        have hz_21 := Int32.not_lt.mpr h_21
        refine q_iconst F dX7_isBetter_28 (v := nI 0) (by decide) ?_
        refine q_zret F hr_ (by decide) dX7_isBetter_29 (hp_ _ _ ⟨congrArg (fun z => some (Value.int z)) ?_, ?_⟩)
        · simp [btr, bI, *]
        · rfl
      · skip
        have hz_21 := Int32.not_le.mp h_21
        refine q_iconst F dX7_isBetter_24 (v := nI 1) (by decide) ?_
        refine q_goto F (tgt := 29) dX7_isBetter_25 (by decide) ?_
        refine q_zret F hr_ (by decide) dX7_isBetter_29 (hp_ _ _ ⟨congrArg (fun z => some (Value.int z)) ?_, ?_⟩)
        · simp [btr, bI, *]
        · rfl

set_option maxHeartbeats 4000000 in
set_option maxRecDepth 100000 in
theorem c_X7_keepRound (l : Launch) (E : gEnv) (r : Nat → Nat) (t0 : Nat) (kd : Nat → Nat) (g O BO P M U : Nat → Int32) (tl : va_W) (hKs : isIn (ksC kd P M U) tl) (d : Nat) (hd : d ≤ 6) (x : Int32) : Cn l E yX7_keepRound wsX7_keepRound (rmL 0 0 0) [.ref (r 0), .int (nI d), .int x] (rC E r t0 kd g O BO ++ tl) 0 0 (fun v w => v = none ∧ w = rC E r t0 kd (upd (upd (upd g 4 (nI d)) 7 x) 8 (M d)) O (fil O BO d) ++ tl) := by
  refine Cn.of (own := RX7) (cc := cX7_keepRound) (maxL := 4) (ret := none) (lv := [(0, .ref (r 0)), (1, .int (nI d)), (2, .int x)]) (by decide) rfl rfl (Nat.le_of_ble_eq_true rfl) rfl ?_
  intro p_ e_ s_ m_ args_ below_ meth_ c_ A_ P_ hp_ F hr_ hnm_
  have hf70_7 : Cond.fieldLink RX7 70 "KeyOnStreet$Rounds" (TX7 7).2.1 (TX7 7).2.2.1 ∈ wsX7_keepRound := by decide +kernel
  have hi7 : ∀ w ∈ u_ws RX7 TX7 9, w ∈ wsX7_keepRound := by decide +kernel
  have hf11_7 : Cond.fieldLink RX7 11 "KeyOnStreet$Rounds" (TX7 1).2.1 (TX7 1).2.2.1 ∈ wsX7_keepRound := by decide +kernel
  have hf73_2 : Cond.fieldLink RX7 73 "KeyOnStreet$Key" (TX2 1).2.1 (TX2 1).2.2.1 ∈ wsX7_keepRound := by decide +kernel
  have hi2 : ∀ w ∈ u_ws RX2 TX2 3, w ∈ wsX7_keepRound := by decide +kernel
  have hf54_7 : Cond.fieldLink RX7 54 "KeyOnStreet$Rounds" (TX7 8).2.1 (TX7 8).2.2.1 ∈ wsX7_keepRound := by decide +kernel
  have hf67_7 : Cond.fieldLink RX7 67 "KeyOnStreet$Rounds" (TX7 4).2.1 (TX7 4).2.2.1 ∈ wsX7_keepRound := by decide +kernel
  have hf21_7 : Cond.fieldLink RX7 21 "KeyOnStreet$Rounds" (TX7 3).2.1 (TX7 3).2.2.1 ∈ wsX7_keepRound := by decide +kernel
  have hf17_7 : Cond.fieldLink RX7 17 "KeyOnStreet$Rounds" (TX7 2).2.1 (TX7 2).2.2.1 ∈ wsX7_keepRound := by decide +kernel
  refine q_aload_n F 0 dX7_keepRound_0 rfl ?_
  refine q_iload_n F 2 dX7_keepRound_1 rfl ?_
  refine q_put F (j := 7) 0 rfl rfl hi7 tyX7 tyX7_ok nmX7 (by decide) hf70_7 rfl rfl rfl rfl (Nat.le_of_ble_eq_true rfl) dX7_keepRound_2 (ws' := rC E r t0 kd (upd g 7 x) O BO ++ tl) rfl ?_
  refine q_aload_n F 0 dX7_keepRound_5 rfl ?_
  refine q_aload_n F 0 dX7_keepRound_6 rfl ?_
  refine q_get F (ci := 7) (j := 1) (v := .ref (r 1)) (List.mem_append_left _ (List.mem_of_getElem? (i := 0) rfl)) rfl hi7 (by decide) hf11_7 rfl rfl dX7_keepRound_7 ?_
  refine q_iload_n F 1 dX7_keepRound_10 rfl ?_
  refine q_ald3 F (r := some (kd d)) (List.mem_append_left _ (List.mem_of_getElem? (i := 1) rfl)) d rfl (by omega) (by decide) (if_pos (by omega)) dX7_keepRound_11 ?_
  refine q_at (pc' := 12) (st' := [.ref (kd d), .ref (r 0)]) (ws' := rC E r t0 kd (upd g 7 x) O BO ++ tl) (k' := 0) (n' := 0) rfl rfl rfl rfl rfl ?_
  refine q_get F (ci := 2) (j := 1) (v := .int (M d)) (List.mem_append_right _ (hKs _ (ks_mem (d := d) (by omega)))) rfl hi2 (by decide) hf73_2 rfl rfl dX7_keepRound_12 ?_
  refine q_put F (j := 8) 0 rfl rfl hi7 tyX7 tyX7_ok nmX7 (by decide) hf54_7 rfl rfl rfl rfl (Nat.le_of_ble_eq_true rfl) dX7_keepRound_15 (ws' := rC E r t0 kd (upd (upd g 7 x) 8 (M d)) O BO ++ tl) rfl ?_
  refine q_aload_n F 0 dX7_keepRound_18 rfl ?_
  refine q_iload_n F 1 dX7_keepRound_19 rfl ?_
  refine q_put F (j := 4) 0 rfl rfl hi7 tyX7 tyX7_ok nmX7 (by decide) hf67_7 rfl rfl rfl rfl (Nat.le_of_ble_eq_true rfl) dX7_keepRound_20 (ws' := rC E r t0 kd (upd (upd (upd g 4 (nI d)) 7 x) 8 (M d)) O BO ++ tl) rfl ?_
  refine q_iconst F dX7_keepRound_23 (v := nI 0) (by decide) ?_
  refine q_istore_n F (lv' := [(3, .int (nI 0)), (0, .ref (r 0)), (1, .int (nI d)), (2, .int x)]) dX7_keepRound_24 (by decide) rfl ?_
  have lb25 : ∀ (fu : Nat) (i : Nat) (hi : i ≤ d), d - i < fu → gW p_ l e_ (rmL 0 0 0) s_ m_ args_ below_ meth_ c_ E A_ 4 (MQ below_ (gQ E A_ P_) args_ s_ 0 0 A_) 25 [(0, .ref (r 0)), (1, .int (nI d)), (3, .int (nI i))] [] (rC E r t0 kd (upd (upd (upd g 4 (nI d)) 7 x) 8 (M d)) O (fil O BO i) ++ tl) 0 0 := by
    intro fu_25
    induction fu_25 with
    | zero => intro i hi hfu; exact absurd hfu (Nat.not_lt_zero _)
    | succ fu_25 ih_25 =>
      intro i hi hfu_25
      refine q_iload_n F 2 dX7_keepRound_25 rfl ?_
      refine q_iload_n F 1 dX7_keepRound_26 rfl ?_
      refine q_icmp_ge F (tgt := 54) dX7_keepRound_27 (by decide) (fun h_27 => ?_) (fun h_27 => ?_)
      · skip
        have hn_27 : i ≥ d := nf_ge_t (by omega) (by omega) h_27
        refine q_vret F hr_ dX7_keepRound_54 (hp_ _ _ ⟨rfl, ?_⟩)
        (have e6 : i = d := by omega); rw [e6]
      · skip
        have hn_27 : i < d := nf_ge_f (by omega) (by omega) h_27
        refine q_iload_n F 2 dX7_keepRound_30 rfl ?_
        refine q_bipush F dX7_keepRound_31 (v := nI 6) (by decide) ?_
        refine q_icmp_ge F (tgt := 54) dX7_keepRound_33 (by decide) (fun h_33 => ?_) (fun h_33 => ?_)
        · skip
          have hn_33 : i ≥ 6 := nf_ge_t (by omega) (by omega) h_33
          omega
        · skip
          have hn_33 : i < 6 := nf_ge_f (by omega) (by omega) h_33
          refine q_aload_n F 0 dX7_keepRound_36 rfl ?_
          refine q_get F (ci := 7) (j := 3) (v := .ref (r 3)) (List.mem_append_left _ (List.mem_of_getElem? (i := 0) rfl)) rfl hi7 (by decide) hf21_7 rfl rfl dX7_keepRound_37 ?_
          refine q_iload_n F 2 dX7_keepRound_40 rfl ?_
          refine q_aload_n F 0 dX7_keepRound_41 rfl ?_
          refine q_get F (ci := 7) (j := 2) (v := .ref (r 2)) (List.mem_append_left _ (List.mem_of_getElem? (i := 0) rfl)) rfl hi7 (by decide) hf17_7 rfl rfl dX7_keepRound_42 ?_
          refine q_iload_n F 2 dX7_keepRound_45 rfl ?_
          refine q_iald F (f := O) (List.mem_append_left _ (List.mem_of_getElem? (i := 2) rfl)) i rfl (by omega) (by decide) dX7_keepRound_46 ?_
          refine q_iast F 3 rfl i rfl (by omega) (by decide) dX7_keepRound_47 (ws' := rC E r t0 kd (upd (upd (upd g 4 (nI d)) 7 x) 8 (M d)) O (upd (fil O BO i) i (O i)) ++ tl) rfl ?_
          refine q_iinc F 2 (v := nI (i + 1)) (lv' := [(3, .int (nI (i + 1))), (0, .ref (r 0)), (1, .int (nI d))]) dX7_keepRound_48 rfl (nI_1 _) (by decide) rfl ?_
          refine q_goto F (tgt := 25) dX7_keepRound_51 (by decide) ?_
          refine q_lv [1, 2, 0] (lv' := [(0, .ref (r 0)), (1, .int (nI d)), (3, .int (nI (i + 1)))]) rfl ?_
          refine q_to (lv' := [(0, .ref (r 0)), (1, .int (nI d)), (3, .int (nI (i + 1)))]) (st' := []) (ws' := rC E r t0 kd (upd (upd (upd g 4 (nI d)) 7 x) 8 (M d)) O (fil O BO (i + 1)) ++ tl) rfl rfl (by rw [fil_s]) ?_
          exact ih_25 (i + 1) (by omega) (by omega)
  refine q_lv [1, 2, 0] (lv' := [(0, .ref (r 0)), (1, .int (nI d)), (3, .int (nI 0))]) rfl ?_
  refine q_to (lv' := [(0, .ref (r 0)), (1, .int (nI d)), (3, .int (nI 0))]) (st' := []) (ws' := rC E r t0 kd (upd (upd (upd g 4 (nI d)) 7 x) 8 (M d)) O (fil O BO 0) ++ tl) rfl rfl (by rw [fil_0]) ?_
  exact lb25 (d - 0 + 1) 0 (by omega) (Nat.lt_succ_self _)

set_option maxHeartbeats 4000000 in
set_option maxRecDepth 100000 in
theorem c_X7_goOn (l : Launch) (E : gEnv) (m : Nat) (ih : OpK l E m) (r t kd : Nat → Nat) (T : gTown) (g O BO P M U : Nat → Int32) (cl mf : Bool) (b : Nat → Bool) (d : Nat) (lt : Int32) (tl : va_W) (hT : isIn (tC E t T) tl) (hH : isHs T tl) (hn : tN T ≤ 6) (h5 : g 5 = bI cl) (h6 : g 6 = bI mf) (hs : ∀ j, b j = true → j < tN T) (hc : cnt b 6 + d ≤ 6) (hm : cnt b 6 < m + 1) : Cn l E yX7_goOn wsX7_goOn (rmL (2 * m + 6) 0 0) [.ref (r 0), .int (nI d), .int (wb b 6), .int lt] (rC E r (t 0) kd g O BO ++ (ksC kd P M U ++ tl)) 0 0 (goP E r (t 0) kd tl (dfC T cl mf (m + 1) b (P d) (M d) (U d) lt d O (g 7, g 8, g 4, BO)) (g 5) (g 6) d O P M U) := by
  refine Cn.of (own := RX7) (cc := cX7_goOn) (maxL := 6) (ret := none) (lv := [(0, .ref (r 0)), (1, .int (nI d)), (2, .int (wb b 6)), (3, .int lt)]) (by decide) rfl rfl (Nat.le_of_ble_eq_true rfl) rfl ?_
  intro p_ e_ s_ m_ args_ below_ meth_ c_ A_ P_ hp_ F hr_ hnm_
  have hf11_7 : Cond.fieldLink RX7 11 "KeyOnStreet$Rounds" (TX7 1).2.1 (TX7 1).2.2.1 ∈ wsX7_goOn := by decide +kernel
  have hi7 : ∀ w ∈ u_ws RX7 TX7 9, w ∈ wsX7_goOn := by decide +kernel
  have hf73_2 : Cond.fieldLink RX7 73 "KeyOnStreet$Key" (TX2 1).2.1 (TX2 1).2.2.1 ∈ wsX7_goOn := by decide +kernel
  have hi2 : ∀ w ∈ u_ws RX2 TX2 3, w ∈ wsX7_goOn := by decide +kernel
  have hd_X7_isBetter : yX7_isBetter.cls = RX7 ∧ yX7_isBetter.cls ≠ "java/lang/invoke/MethodHandle" ∧ yX7_isBetter.cls ≠ "java/lang/invoke/VarHandle" ∧ (parseMethodDescriptor yX7_isBetter.desc).map (fun d => d.parameters.length) = some 2 := by decide +kernel
  have hf33_7 : Cond.fieldLink RX7 33 "KeyOnStreet$Rounds" (TX7 6).2.1 (TX7 6).2.2.1 ∈ wsX7_goOn := by decide +kernel
  have hf24_7 : Cond.fieldLink RX7 24 "KeyOnStreet$Rounds" (TX7 0).2.1 (TX7 0).2.2.1 ∈ wsX7_goOn := by decide +kernel
  have hf100_8 : Cond.fieldLink RX7 100 "KeyOnStreet$Town" (TX8 2).2.1 (TX8 2).2.2.1 ∈ wsX7_goOn := by decide +kernel
  have hi8 : ∀ w ∈ u_ws RX8 TX8 4, w ∈ wsX7_goOn := by decide +kernel
  have hd_X7_openThenGoOn : yX7_openThenGoOn.cls = RX7 ∧ yX7_openThenGoOn.cls ≠ "java/lang/invoke/MethodHandle" ∧ yX7_openThenGoOn.cls ≠ "java/lang/invoke/VarHandle" ∧ (parseMethodDescriptor yX7_openThenGoOn.desc).map (fun d => d.parameters.length) = some 4 := by decide +kernel
  have hd_X8_mayBeOpened : yX8_mayBeOpened.cls = RX8 ∧ yX8_mayBeOpened.cls ≠ "java/lang/invoke/MethodHandle" ∧ yX8_mayBeOpened.cls ≠ "java/lang/invoke/VarHandle" ∧ (parseMethodDescriptor yX8_mayBeOpened.desc).map (fun d => d.parameters.length) = some 1 := by decide +kernel
  have hd_X7_keepRound : yX7_keepRound.cls = RX7 ∧ yX7_keepRound.cls ≠ "java/lang/invoke/MethodHandle" ∧ yX7_keepRound.cls ≠ "java/lang/invoke/VarHandle" ∧ (parseMethodDescriptor yX7_keepRound.desc).map (fun d => d.parameters.length) = some 2 := by decide +kernel
  refine q_iload_n F 1 dX7_goOn_0 rfl ?_
  refine q_if_lt F (tgt := 27) dX7_goOn_1 (by decide) (fun h_1 => ?_) (fun h_1 => ?_)
  · skip
    have hn_1 : d < 0 := nf_lt_t0 (by omega) h_1
    omega
  · skip
    have hn_1 : d ≥ 0 := nf_lt_f0 (by omega) h_1
    refine q_iload_n F 1 dX7_goOn_4 rfl ?_
    refine q_bipush F dX7_goOn_5 (v := nI 6) (by decide) ?_
    refine q_icmp_gt F (tgt := 27) dX7_goOn_7 (by decide) (fun h_7 => ?_) (fun h_7 => ?_)
    · skip
      have hn_7 : d > 6 := nf_gt_t (by omega) (by omega) h_7
      omega
    · skip
      have hn_7 : d ≤ 6 := nf_gt_f (by omega) (by omega) h_7
      refine q_aload_n F 0 dX7_goOn_10 rfl ?_
      refine q_iload_n F 3 dX7_goOn_11 rfl ?_
      refine q_aload_n F 0 dX7_goOn_12 rfl ?_
      refine q_get F (ci := 7) (j := 1) (v := .ref (r 1)) (List.mem_append_left _ (List.mem_of_getElem? (i := 0) rfl)) rfl hi7 (by decide) hf11_7 rfl rfl dX7_goOn_13 ?_
      refine q_iload_n F 1 dX7_goOn_16 rfl ?_
      refine q_ald3 F (r := some (kd d)) (List.mem_append_left _ (List.mem_of_getElem? (i := 1) rfl)) d rfl (by omega) (by decide) (if_pos (by omega)) dX7_goOn_17 ?_
      refine q_at (pc' := 18) (st' := [.ref (kd d), .int lt, .ref (r 0)]) (ws' := rC E r (t 0) kd g O BO ++ (ksC kd P M U ++ tl)) (k' := 0) (n' := 0) rfl rfl rfl rfl rfl ?_
      refine q_get F (ci := 2) (j := 1) (v := .int (M d)) (List.mem_append_right _ (List.mem_append_left _ (ks_mem (d := d) (by omega)))) rfl hi2 (by decide) hf73_2 rfl rfl dX7_goOn_18 ?_
      refine q_callV F (ci := 7) (As := [.int lt, .int (M d)]) (rest := []) (List.mem_append_left _ (List.mem_of_getElem? (i := 0) rfl)) rfl (c_X7_isBetter l E r (t 0) kd g O BO (rC E r (t 0) kd g O BO ++ (ksC kd P M U ++ tl)) (isIn.l _ _) lt (M d)) (List.Perm.refl _) gX7_goOn_X7_isBetter rfl rfl rfl hd_X7_isBetter ⟨by show 0 + 1 ≤ (2 * m + 6); omega, by show 8 + (3 + 11) + 64 * 0 ≤ 64 * (2 * m + 6); omega⟩ rfl (Nat.le_of_ble_eq_true rfl) dX7_goOn_21 ⟨Nat.le_of_ble_eq_true rfl, Nat.le_of_ble_eq_true rfl⟩ (fun v_ w_ hvw => ?_)
      rw [hvw.1, hvw.2]
      clear hvw
      refine q_at (pc' := 24) (st' := [.int (bI (btr lt (M d) (g 7) (g 8)))]) (ws' := rC E r (t 0) kd g O BO ++ (ksC kd P M U ++ tl)) (k' := 0) (n' := 0) rfl rfl rfl rfl rfl ?_
      refine q_if_ne F (tgt := 28) dX7_goOn_24 (by decide) (fun h_24 => ?_) (fun h_24 => ?_)
      · skip
        have hb_24 := bI_1 h_24
        refine q_iload_n F 2 dX7_goOn_28 rfl ?_
        refine q_if_ne F (tgt := 39) dX7_goOn_29 (by decide) (fun h_29 => ?_) (fun h_29 => ?_)
        · skip
          refine q_aload_n F 0 dX7_goOn_39 rfl ?_
          refine q_get F (ci := 7) (j := 6) (v := .int (g 6)) (List.mem_append_left _ (List.mem_of_getElem? (i := 0) rfl)) rfl hi7 (by decide) hf33_7 rfl rfl dX7_goOn_40 ?_
          refine q_toi (bI mf) (h6) ?_
          refine q_if_eq F (tgt := 57) dX7_goOn_43 (by decide) (fun h_43 => ?_) (fun h_43 => ?_)
          · skip
            have hb_43 := bI_0 h_43
            refine q_iload_n F 2 dX7_goOn_57 rfl ?_
            refine q_toi (wb (mB T mf b) 6) (by rw [hb_43]; rfl) ?_
            refine q_istore F (lv' := [(4, .int (wb (mB T mf b) 6)), (0, .ref (r 0)), (1, .int (nI d)), (2, .int (wb b 6)), (3, .int lt)]) dX7_goOn_58 (by decide) rfl ?_
            refine q_iconst F dX7_goOn_60 (v := nI 0) (by decide) ?_
            refine q_istore F (lv' := [(5, .int (nI 0)), (4, .int (wb (mB T mf b) 6)), (0, .ref (r 0)), (1, .int (nI d)), (2, .int (wb b 6)), (3, .int lt)]) dX7_goOn_61 (by decide) rfl ?_
            have lb63 : ∀ (fu : Nat) (i : Nat) (g9 : Nat → Int32) (O9 : Nat → Int32) (BO9 : Nat → Int32) (P9 : Nat → Int32) (M9 : Nat → Int32) (U9 : Nat → Int32) (hi : i ≤ tN T) (ha9 : ((g9 7, g9 8, g9 4, BO9) : gAc) = fN (dfF T cl mf m b (P d) (M d) (U d) lt d O) i (g 7, g 8, g 4, BO)) (h59 : g9 5 = g 5) (h69 : g9 6 = g 6) (hO9 : ∀ j, j < d → O9 j = O j) (hK9 : ∀ j, j ≤ d → P9 j = P j ∧ M9 j = M j ∧ U9 j = U j), tN T - i < fu → gW p_ l e_ (rmL (2 * m + 6) 0 0) s_ m_ args_ below_ meth_ c_ E A_ 6 (MQ below_ (gQ E A_ P_) args_ s_ 0 0 A_) 63 [(0, .ref (r 0)), (1, .int (nI d)), (2, .int (wb b 6)), (3, .int lt), (4, .int (wb (mB T mf b) 6)), (5, .int (nI i))] [] (rC E r (t 0) kd g9 O9 BO9 ++ (ksC kd P9 M9 U9 ++ tl)) 0 0 := by
              intro fu_63
              induction fu_63 with
              | zero => intro i g9 O9 BO9 P9 M9 U9 hi ha9 h59 h69 hO9 hK9 hfu; exact absurd hfu (Nat.not_lt_zero _)
              | succ fu_63 ih_63 =>
                intro i g9 O9 BO9 P9 M9 U9 hi ha9 h59 h69 hO9 hK9 hfu_63
                refine q_iload F 5 dX7_goOn_63 rfl ?_
                refine q_aload_n F 0 dX7_goOn_65 rfl ?_
                refine q_get F (ci := 7) (j := 0) (v := .ref (t 0)) (List.mem_append_left _ (List.mem_of_getElem? (i := 0) rfl)) rfl hi7 (by decide) hf24_7 rfl rfl dX7_goOn_66 ?_
                refine q_get F (ci := 8) (j := 2) (v := .int (nI (tN T))) (List.mem_append_right _ (List.mem_append_right _ (hT _ (List.mem_of_getElem? (i := 0) rfl)))) rfl hi8 (by decide) hf100_8 rfl rfl dX7_goOn_69 ?_
                refine q_icmp_ge F (tgt := 101) dX7_goOn_72 (by decide) (fun h_72 => ?_) (fun h_72 => ?_)
                · skip
                  have hn_72 : i ≥ (tN T) := nf_ge_t (by omega) (by omega) h_72
                  obtain rfl : i = tN T := by omega
                  refine q_vret F hr_ dX7_goOn_101 (hp_ _ _ ⟨rfl, g9, O9, BO9, P9, M9, U9, rfl, ?_, h59, h69, hO9, hK9⟩)
                  rw [dfC_s, if_neg (by rw [hb_24]; decide), if_neg h_29]; exact ha9
                · skip
                  have hn_72 : i < (tN T) := nf_ge_f (by omega) (by omega) h_72
                  refine q_iload F 4 dX7_goOn_75 rfl ?_
                  refine q_iload F 5 dX7_goOn_77 rfl ?_
                  refine q_ishr F dX7_goOn_79 ?_
                  refine q_iconst F dX7_goOn_80 (v := nI 1) (by decide) ?_
                  refine q_iand F dX7_goOn_81 ?_
                  refine q_iconst F dX7_goOn_82 (v := nI 1) (by decide) ?_
                  refine q_icmp_ne F (tgt := 95) dX7_goOn_83 (by decide) (fun h_83 => ?_) (fun h_83 => ?_)
                  · skip
                    have hbit : ¬ mB T mf b i = true := fun z => h_83 ((wb_bitI _ (by omega)).mpr z)
                    refine q_iinc F 5 (v := nI (i + 1)) (lv' := [(5, .int (nI (i + 1))), (0, .ref (r 0)), (1, .int (nI d)), (2, .int (wb b 6)), (3, .int lt), (4, .int (wb (mB T mf b) 6))]) dX7_goOn_95 rfl (nI_1 _) (by decide) rfl ?_
                    refine q_goto F (tgt := 63) dX7_goOn_98 (by decide) ?_
                    refine q_lv [1, 2, 3, 4, 5, 0] (lv' := [(0, .ref (r 0)), (1, .int (nI d)), (2, .int (wb b 6)), (3, .int lt), (4, .int (wb (mB T mf b) 6)), (5, .int (nI (i + 1)))]) rfl ?_
                    refine q_to (lv' := [(0, .ref (r 0)), (1, .int (nI d)), (2, .int (wb b 6)), (3, .int lt), (4, .int (wb (mB T mf b) 6)), (5, .int (nI (i + 1)))]) (st' := []) (ws' := rC E r (t 0) kd g9 O9 BO9 ++ (ksC kd P9 M9 U9 ++ tl)) rfl rfl rfl ?_
                    exact ih_63 (i + 1) g9 O9 BO9 P9 M9 U9 (by omega) (by rw [ha9]; show _ = dfF T cl mf m b (P d) (M d) (U d) lt d O i (fN (dfF T cl mf m b (P d) (M d) (U d) lt d O) i (g 7, g 8, g 4, BO)); rw [dfF, if_neg hbit]) (h59) (h69) (hO9) (hK9) (by omega)
                  · skip
                    have hbit : mB T mf b i = true := (wb_bitI _ (by omega)).mp h_83
                    refine q_aload_n F 0 dX7_goOn_86 rfl ?_
                    refine q_iload F 5 dX7_goOn_87 rfl ?_
                    refine q_iload_n F 1 dX7_goOn_89 rfl ?_
                    refine q_iload_n F 2 dX7_goOn_90 rfl ?_
                    refine q_iload_n F 3 dX7_goOn_91 rfl ?_
                    refine q_perm pf1 ?_
                    refine q_perm pf1 ?_
                    refine q_callV F (ci := 7) (As := [.int (nI i), .int (nI d), .int (wb b 6), .int lt]) (rest := []) (List.mem_append_left _ (List.mem_of_getElem? (i := 0) rfl)) rfl (ih r t kd T g9 O9 BO9 P9 M9 U9 cl mf b i d lt tl hT hH hn (h59.trans h5) (h69.trans h6) hs (mB_sub hbit) hc (by omega)) (List.Perm.refl _) gX7_goOn_X7_openThenGoOn rfl rfl rfl hd_X7_openThenGoOn ⟨by show (2 * m + 5) + 1 ≤ (2 * m + 6); omega, by show 8 + (8 + 11) + 64 * (2 * m + 5) ≤ 64 * (2 * m + 6); omega⟩ rfl (Nat.le_of_ble_eq_true rfl) dX7_goOn_92 ⟨Nat.le_of_ble_eq_true rfl, Nat.le_of_ble_eq_true rfl⟩ (fun v_ w_ hvw => ?_)
                    obtain ⟨hv_, g8, O8, BO8, P8, M8, U8, hw_, ha8, h58, h68, hO8, hK8⟩ := hvw
                    rw [hv_, hw_]
                    refine q_at (pc' := 95) (st' := []) (ws' := rC E r (t 0) kd g8 O8 BO8 ++ (ksC kd P8 M8 U8 ++ tl)) (k' := 0) (n' := 0) rfl rfl rfl rfl rfl ?_
                    refine q_iinc F 5 (v := nI (i + 1)) (lv' := [(5, .int (nI (i + 1))), (0, .ref (r 0)), (1, .int (nI d)), (2, .int (wb b 6)), (3, .int lt), (4, .int (wb (mB T mf b) 6))]) dX7_goOn_95 rfl (nI_1 _) (by decide) rfl ?_
                    refine q_goto F (tgt := 63) dX7_goOn_98 (by decide) ?_
                    refine q_lv [1, 2, 3, 4, 5, 0] (lv' := [(0, .ref (r 0)), (1, .int (nI d)), (2, .int (wb b 6)), (3, .int lt), (4, .int (wb (mB T mf b) 6)), (5, .int (nI (i + 1)))]) rfl ?_
                    refine q_to (lv' := [(0, .ref (r 0)), (1, .int (nI d)), (2, .int (wb b 6)), (3, .int lt), (4, .int (wb (mB T mf b) 6)), (5, .int (nI (i + 1)))]) (st' := []) (ws' := rC E r (t 0) kd g8 O8 BO8 ++ (ksC kd P8 M8 U8 ++ tl)) rfl rfl rfl ?_
                    exact ih_63 (i + 1) g8 O8 BO8 P8 M8 U8 (by omega) (by rw [ha8, ha9, (hK9 d (Nat.le_refl d)).1, (hK9 d (Nat.le_refl d)).2.1, (hK9 d (Nat.le_refl d)).2.2]; show _ = dfF T cl mf m b (P d) (M d) (U d) lt d O i (fN (dfF T cl mf m b (P d) (M d) (U d) lt d O) i (g 7, g 8, g 4, BO)); rw [dfF, if_pos hbit]; exact dfC_congO (fun j hj => by simp only [upd]; by_cases q : j = d; rw [if_pos q, if_pos q]; rw [if_neg q, if_neg q]; exact hO9 j (by omega))) (h58.trans h59) (h68.trans h69) (fun j hj => (hO8 j hj).trans (hO9 j hj)) (fun j hj => ⟨(hK8 j hj).1.trans (hK9 j hj).1, (hK8 j hj).2.1.trans (hK9 j hj).2.1, (hK8 j hj).2.2.trans (hK9 j hj).2.2⟩) (by omega)
            refine q_lv [2, 3, 4, 5, 1, 0] (lv' := [(0, .ref (r 0)), (1, .int (nI d)), (2, .int (wb b 6)), (3, .int lt), (4, .int (wb (mB T mf b) 6)), (5, .int (nI 0))]) rfl ?_
            refine q_to (lv' := [(0, .ref (r 0)), (1, .int (nI d)), (2, .int (wb b 6)), (3, .int lt), (4, .int (wb (mB T mf b) 6)), (5, .int (nI 0))]) (st' := []) (ws' := rC E r (t 0) kd g O BO ++ (ksC kd P M U ++ tl)) rfl rfl rfl ?_
            exact lb63 (tN T - 0 + 1) 0 g O BO P M U (by omega) (rfl) (rfl) (rfl) (fun _ _ => rfl) (fun _ _ => ⟨rfl, rfl, rfl⟩) (Nat.lt_succ_self _)
          · skip
            have hb_43 := bI_1 h_43
            refine q_aload_n F 0 dX7_goOn_46 rfl ?_
            refine q_get F (ci := 7) (j := 0) (v := .ref (t 0)) (List.mem_append_left _ (List.mem_of_getElem? (i := 0) rfl)) rfl hi7 (by decide) hf24_7 rfl rfl dX7_goOn_47 ?_
            refine q_iload_n F 2 dX7_goOn_50 rfl ?_
            refine q_callV F (ci := 8) (As := [.int (wb b 6)]) (rest := []) (List.mem_append_right _ (List.mem_append_right _ (hT _ (List.mem_of_getElem? (i := 0) rfl)))) rfl (c_X8_mayBeOpened l E t T (rC E r (t 0) kd g O BO ++ (ksC kd P M U ++ tl)) (isIn.r _ (isIn.r _ hT)) (wb b 6)) (List.Perm.refl _) gX7_goOn_X8_mayBeOpened rfl rfl rfl hd_X8_mayBeOpened ⟨by show 0 + 1 ≤ (2 * m + 6); omega, by show 8 + (3 + 11) + 64 * 0 ≤ 64 * (2 * m + 6); omega⟩ rfl (Nat.le_of_ble_eq_true rfl) dX7_goOn_51 ⟨Nat.le_of_ble_eq_true rfl, Nat.le_of_ble_eq_true rfl⟩ (fun v_ w_ hvw => ?_)
            rw [hvw.1, hvw.2]
            clear hvw
            refine q_at (pc' := 54) (st' := [.int (mayB (mwB T 6) (wb b 6))]) (ws' := rC E r (t 0) kd g O BO ++ (ksC kd P M U ++ tl)) (k' := 0) (n' := 0) rfl rfl rfl rfl rfl ?_
            refine q_goto F (tgt := 58) dX7_goOn_54 (by decide) ?_
            refine q_toi (wb (mB T mf b) 6) (by rw [hb_43]; exact mayB_wb T b) ?_
            refine q_istore F (lv' := [(4, .int (wb (mB T mf b) 6)), (0, .ref (r 0)), (1, .int (nI d)), (2, .int (wb b 6)), (3, .int lt)]) dX7_goOn_58 (by decide) rfl ?_
            refine q_iconst F dX7_goOn_60 (v := nI 0) (by decide) ?_
            refine q_istore F (lv' := [(5, .int (nI 0)), (4, .int (wb (mB T mf b) 6)), (0, .ref (r 0)), (1, .int (nI d)), (2, .int (wb b 6)), (3, .int lt)]) dX7_goOn_61 (by decide) rfl ?_
            have lb63 : ∀ (fu : Nat) (i : Nat) (g9 : Nat → Int32) (O9 : Nat → Int32) (BO9 : Nat → Int32) (P9 : Nat → Int32) (M9 : Nat → Int32) (U9 : Nat → Int32) (hi : i ≤ tN T) (ha9 : ((g9 7, g9 8, g9 4, BO9) : gAc) = fN (dfF T cl mf m b (P d) (M d) (U d) lt d O) i (g 7, g 8, g 4, BO)) (h59 : g9 5 = g 5) (h69 : g9 6 = g 6) (hO9 : ∀ j, j < d → O9 j = O j) (hK9 : ∀ j, j ≤ d → P9 j = P j ∧ M9 j = M j ∧ U9 j = U j), tN T - i < fu → gW p_ l e_ (rmL (2 * m + 6) 0 0) s_ m_ args_ below_ meth_ c_ E A_ 6 (MQ below_ (gQ E A_ P_) args_ s_ 0 0 A_) 63 [(0, .ref (r 0)), (1, .int (nI d)), (2, .int (wb b 6)), (3, .int lt), (4, .int (wb (mB T mf b) 6)), (5, .int (nI i))] [] (rC E r (t 0) kd g9 O9 BO9 ++ (ksC kd P9 M9 U9 ++ tl)) 0 0 := by
              intro fu_63
              induction fu_63 with
              | zero => intro i g9 O9 BO9 P9 M9 U9 hi ha9 h59 h69 hO9 hK9 hfu; exact absurd hfu (Nat.not_lt_zero _)
              | succ fu_63 ih_63 =>
                intro i g9 O9 BO9 P9 M9 U9 hi ha9 h59 h69 hO9 hK9 hfu_63
                refine q_iload F 5 dX7_goOn_63 rfl ?_
                refine q_aload_n F 0 dX7_goOn_65 rfl ?_
                refine q_get F (ci := 7) (j := 0) (v := .ref (t 0)) (List.mem_append_left _ (List.mem_of_getElem? (i := 0) rfl)) rfl hi7 (by decide) hf24_7 rfl rfl dX7_goOn_66 ?_
                refine q_get F (ci := 8) (j := 2) (v := .int (nI (tN T))) (List.mem_append_right _ (List.mem_append_right _ (hT _ (List.mem_of_getElem? (i := 0) rfl)))) rfl hi8 (by decide) hf100_8 rfl rfl dX7_goOn_69 ?_
                refine q_icmp_ge F (tgt := 101) dX7_goOn_72 (by decide) (fun h_72 => ?_) (fun h_72 => ?_)
                · skip
                  have hn_72 : i ≥ (tN T) := nf_ge_t (by omega) (by omega) h_72
                  obtain rfl : i = tN T := by omega
                  refine q_vret F hr_ dX7_goOn_101 (hp_ _ _ ⟨rfl, g9, O9, BO9, P9, M9, U9, rfl, ?_, h59, h69, hO9, hK9⟩)
                  rw [dfC_s, if_neg (by rw [hb_24]; decide), if_neg h_29]; exact ha9
                · skip
                  have hn_72 : i < (tN T) := nf_ge_f (by omega) (by omega) h_72
                  refine q_iload F 4 dX7_goOn_75 rfl ?_
                  refine q_iload F 5 dX7_goOn_77 rfl ?_
                  refine q_ishr F dX7_goOn_79 ?_
                  refine q_iconst F dX7_goOn_80 (v := nI 1) (by decide) ?_
                  refine q_iand F dX7_goOn_81 ?_
                  refine q_iconst F dX7_goOn_82 (v := nI 1) (by decide) ?_
                  refine q_icmp_ne F (tgt := 95) dX7_goOn_83 (by decide) (fun h_83 => ?_) (fun h_83 => ?_)
                  · skip
                    have hbit : ¬ mB T mf b i = true := fun z => h_83 ((wb_bitI _ (by omega)).mpr z)
                    refine q_iinc F 5 (v := nI (i + 1)) (lv' := [(5, .int (nI (i + 1))), (0, .ref (r 0)), (1, .int (nI d)), (2, .int (wb b 6)), (3, .int lt), (4, .int (wb (mB T mf b) 6))]) dX7_goOn_95 rfl (nI_1 _) (by decide) rfl ?_
                    refine q_goto F (tgt := 63) dX7_goOn_98 (by decide) ?_
                    refine q_lv [1, 2, 3, 4, 5, 0] (lv' := [(0, .ref (r 0)), (1, .int (nI d)), (2, .int (wb b 6)), (3, .int lt), (4, .int (wb (mB T mf b) 6)), (5, .int (nI (i + 1)))]) rfl ?_
                    refine q_to (lv' := [(0, .ref (r 0)), (1, .int (nI d)), (2, .int (wb b 6)), (3, .int lt), (4, .int (wb (mB T mf b) 6)), (5, .int (nI (i + 1)))]) (st' := []) (ws' := rC E r (t 0) kd g9 O9 BO9 ++ (ksC kd P9 M9 U9 ++ tl)) rfl rfl rfl ?_
                    exact ih_63 (i + 1) g9 O9 BO9 P9 M9 U9 (by omega) (by rw [ha9]; show _ = dfF T cl mf m b (P d) (M d) (U d) lt d O i (fN (dfF T cl mf m b (P d) (M d) (U d) lt d O) i (g 7, g 8, g 4, BO)); rw [dfF, if_neg hbit]) (h59) (h69) (hO9) (hK9) (by omega)
                  · skip
                    have hbit : mB T mf b i = true := (wb_bitI _ (by omega)).mp h_83
                    refine q_aload_n F 0 dX7_goOn_86 rfl ?_
                    refine q_iload F 5 dX7_goOn_87 rfl ?_
                    refine q_iload_n F 1 dX7_goOn_89 rfl ?_
                    refine q_iload_n F 2 dX7_goOn_90 rfl ?_
                    refine q_iload_n F 3 dX7_goOn_91 rfl ?_
                    refine q_perm pf1 ?_
                    refine q_perm pf1 ?_
                    refine q_callV F (ci := 7) (As := [.int (nI i), .int (nI d), .int (wb b 6), .int lt]) (rest := []) (List.mem_append_left _ (List.mem_of_getElem? (i := 0) rfl)) rfl (ih r t kd T g9 O9 BO9 P9 M9 U9 cl mf b i d lt tl hT hH hn (h59.trans h5) (h69.trans h6) hs (mB_sub hbit) hc (by omega)) (List.Perm.refl _) gX7_goOn_X7_openThenGoOn rfl rfl rfl hd_X7_openThenGoOn ⟨by show (2 * m + 5) + 1 ≤ (2 * m + 6); omega, by show 8 + (8 + 11) + 64 * (2 * m + 5) ≤ 64 * (2 * m + 6); omega⟩ rfl (Nat.le_of_ble_eq_true rfl) dX7_goOn_92 ⟨Nat.le_of_ble_eq_true rfl, Nat.le_of_ble_eq_true rfl⟩ (fun v_ w_ hvw => ?_)
                    obtain ⟨hv_, g8, O8, BO8, P8, M8, U8, hw_, ha8, h58, h68, hO8, hK8⟩ := hvw
                    rw [hv_, hw_]
                    refine q_at (pc' := 95) (st' := []) (ws' := rC E r (t 0) kd g8 O8 BO8 ++ (ksC kd P8 M8 U8 ++ tl)) (k' := 0) (n' := 0) rfl rfl rfl rfl rfl ?_
                    refine q_iinc F 5 (v := nI (i + 1)) (lv' := [(5, .int (nI (i + 1))), (0, .ref (r 0)), (1, .int (nI d)), (2, .int (wb b 6)), (3, .int lt), (4, .int (wb (mB T mf b) 6))]) dX7_goOn_95 rfl (nI_1 _) (by decide) rfl ?_
                    refine q_goto F (tgt := 63) dX7_goOn_98 (by decide) ?_
                    refine q_lv [1, 2, 3, 4, 5, 0] (lv' := [(0, .ref (r 0)), (1, .int (nI d)), (2, .int (wb b 6)), (3, .int lt), (4, .int (wb (mB T mf b) 6)), (5, .int (nI (i + 1)))]) rfl ?_
                    refine q_to (lv' := [(0, .ref (r 0)), (1, .int (nI d)), (2, .int (wb b 6)), (3, .int lt), (4, .int (wb (mB T mf b) 6)), (5, .int (nI (i + 1)))]) (st' := []) (ws' := rC E r (t 0) kd g8 O8 BO8 ++ (ksC kd P8 M8 U8 ++ tl)) rfl rfl rfl ?_
                    exact ih_63 (i + 1) g8 O8 BO8 P8 M8 U8 (by omega) (by rw [ha8, ha9, (hK9 d (Nat.le_refl d)).1, (hK9 d (Nat.le_refl d)).2.1, (hK9 d (Nat.le_refl d)).2.2]; show _ = dfF T cl mf m b (P d) (M d) (U d) lt d O i (fN (dfF T cl mf m b (P d) (M d) (U d) lt d O) i (g 7, g 8, g 4, BO)); rw [dfF, if_pos hbit]; exact dfC_congO (fun j hj => by simp only [upd]; by_cases q : j = d; rw [if_pos q, if_pos q]; rw [if_neg q, if_neg q]; exact hO9 j (by omega))) (h58.trans h59) (h68.trans h69) (fun j hj => (hO8 j hj).trans (hO9 j hj)) (fun j hj => ⟨(hK8 j hj).1.trans (hK9 j hj).1, (hK8 j hj).2.1.trans (hK9 j hj).2.1, (hK8 j hj).2.2.trans (hK9 j hj).2.2⟩) (by omega)
            refine q_lv [2, 3, 4, 5, 1, 0] (lv' := [(0, .ref (r 0)), (1, .int (nI d)), (2, .int (wb b 6)), (3, .int lt), (4, .int (wb (mB T mf b) 6)), (5, .int (nI 0))]) rfl ?_
            refine q_to (lv' := [(0, .ref (r 0)), (1, .int (nI d)), (2, .int (wb b 6)), (3, .int lt), (4, .int (wb (mB T mf b) 6)), (5, .int (nI 0))]) (st' := []) (ws' := rC E r (t 0) kd g O BO ++ (ksC kd P M U ++ tl)) rfl rfl rfl ?_
            exact lb63 (tN T - 0 + 1) 0 g O BO P M U (by omega) (rfl) (rfl) (rfl) (fun _ _ => rfl) (fun _ _ => ⟨rfl, rfl, rfl⟩) (Nat.lt_succ_self _)
        · skip
          refine q_aload_n F 0 dX7_goOn_32 rfl ?_
          refine q_iload_n F 1 dX7_goOn_33 rfl ?_
          refine q_iload_n F 3 dX7_goOn_34 rfl ?_
          refine q_callV F (ci := 7) (As := [.int (nI d), .int lt]) (rest := []) (List.mem_append_left _ (List.mem_of_getElem? (i := 0) rfl)) rfl (c_X7_keepRound l E r (t 0) kd g O BO P M U (ksC kd P M U ++ tl) (isIn.l _ _) d (by omega) lt) (List.Perm.refl _) gX7_goOn_X7_keepRound rfl rfl rfl hd_X7_keepRound ⟨by show 0 + 1 ≤ (2 * m + 6); omega, by show 8 + (4 + 11) + 64 * 0 ≤ 64 * (2 * m + 6); omega⟩ rfl (Nat.le_of_ble_eq_true rfl) dX7_goOn_35 ⟨Nat.le_of_ble_eq_true rfl, Nat.le_of_ble_eq_true rfl⟩ (fun v_ w_ hvw => ?_)
          rw [hvw.1, hvw.2]
          clear hvw
          refine q_at (pc' := 38) (st' := []) (ws' := rC E r (t 0) kd (upd (upd (upd g 4 (nI d)) 7 lt) 8 (M d)) O (fil O BO d) ++ (ksC kd P M U ++ tl)) (k' := 0) (n' := 0) rfl rfl rfl rfl rfl ?_
          refine q_vret F hr_ dX7_goOn_38 (hp_ _ _ ⟨rfl, _, _, _, P, M, U, rfl, ?_, rfl, rfl, fun _ _ => rfl, fun _ _ => ⟨rfl, rfl, rfl⟩⟩)
          rw [dfC_s, if_neg (by rw [hb_24]; decide), if_pos h_29]; rfl
      · skip
        have hb_24 := bI_0 h_24
        refine q_vret F hr_ dX7_goOn_27 (hp_ _ _ ⟨rfl, g, O, BO, P, M, U, rfl, ?_, rfl, rfl, fun _ _ => rfl, fun _ _ => ⟨rfl, rfl, rfl⟩⟩)
        rw [dfC_s, if_pos hb_24]

set_option maxHeartbeats 4000000 in
set_option maxRecDepth 100000 in
theorem c_X7_openThenGoOn (l : Launch) (E : gEnv) (m : Nat) (ih : GoK l E m) (r t kd : Nat → Nat) (T : gTown) (g O BO P M U : Nat → Int32) (cl mf : Bool) (b : Nat → Bool) (i d : Nat) (lt : Int32) (tl : va_W) (hT : isIn (tC E t T) tl) (hH : isHs T tl) (hn : tN T ≤ 6) (h5 : g 5 = bI cl) (h6 : g 6 = bI mf) (hs : ∀ j, b j = true → j < tN T) (hc : cnt b 6 + d ≤ 6) (hbi : b i = true) (hm : cnt b 6 ≤ m) : Cn l E yX7_openThenGoOn wsX7_openThenGoOn (rmL (2 * m + 5) 0 0) [.ref (r 0), .int (nI i), .int (nI d), .int (wb b 6), .int lt] (rC E r (t 0) kd g O BO ++ (ksC kd P M U ++ tl)) 0 0 (goP E r (t 0) kd tl (dfC T cl mf m (clr b i) (tP T i) (brg (tK T i) (tP T i) (P d) (M d) (U d)) (kpu (tK T i) (brg (tK T i) (tP T i) (P d) (M d) (U d))) (lt + ltC cl (tK T i) (tL T i) (tE T i) (brg (tK T i) (tP T i) (P d) (M d) (U d))) (d + 1) (upd O d (nI i)) (g 7, g 8, g 4, BO)) (g 5) (g 6) d O P M U) := by
  refine Cn.of (own := RX7) (cc := cX7_openThenGoOn) (maxL := 8) (ret := none) (lv := [(0, .ref (r 0)), (1, .int (nI i)), (2, .int (nI d)), (3, .int (wb b 6)), (4, .int lt)]) (by decide) rfl rfl (Nat.le_of_ble_eq_true rfl) rfl ?_
  intro p_ e_ s_ m_ args_ below_ meth_ c_ A_ P_ hp_ F hr_ hnm_
  have hf24_7 : Cond.fieldLink RX7 24 "KeyOnStreet$Rounds" (TX7 0).2.1 (TX7 0).2.2.1 ∈ wsX7_openThenGoOn := by decide +kernel
  have hi7 : ∀ w ∈ u_ws RX7 TX7 9, w ∈ wsX7_openThenGoOn := by decide +kernel
  have hd_X8_at : yX8_at.cls = RX8 ∧ yX8_at.cls ≠ "java/lang/invoke/MethodHandle" ∧ yX8_at.cls ≠ "java/lang/invoke/VarHandle" ∧ (parseMethodDescriptor yX8_at.desc).map (fun d => d.parameters.length) = some 1 := by decide +kernel
  have hf11_7 : Cond.fieldLink RX7 11 "KeyOnStreet$Rounds" (TX7 1).2.1 (TX7 1).2.2.1 ∈ wsX7_openThenGoOn := by decide +kernel
  have hd_X2_copyFrom : yX2_copyFrom.cls = RX2 ∧ yX2_copyFrom.cls ≠ "java/lang/invoke/MethodHandle" ∧ yX2_copyFrom.cls ≠ "java/lang/invoke/VarHandle" ∧ (parseMethodDescriptor yX2_copyFrom.desc).map (fun d => d.parameters.length) = some 1 := by decide +kernel
  have hd_X2_bringTo : yX2_bringTo.cls = RX2 ∧ yX2_bringTo.cls ≠ "java/lang/invoke/MethodHandle" ∧ yX2_bringTo.cls ≠ "java/lang/invoke/VarHandle" ∧ (parseMethodDescriptor yX2_bringTo.desc).map (fun d => d.parameters.length) = some 1 := by decide +kernel
  have hf17_7 : Cond.fieldLink RX7 17 "KeyOnStreet$Rounds" (TX7 2).2.1 (TX7 2).2.2.1 ∈ wsX7_openThenGoOn := by decide +kernel
  have hf29_7 : Cond.fieldLink RX7 29 "KeyOnStreet$Rounds" (TX7 5).2.1 (TX7 5).2.2.1 ∈ wsX7_openThenGoOn := by decide +kernel
  have hd_X7_goOn : yX7_goOn.cls = RX7 ∧ yX7_goOn.cls ≠ "java/lang/invoke/MethodHandle" ∧ yX7_goOn.cls ≠ "java/lang/invoke/VarHandle" ∧ (parseMethodDescriptor yX7_goOn.desc).map (fun d => d.parameters.length) = some 3 := by decide +kernel
  have hf73_2 : Cond.fieldLink RX7 73 "KeyOnStreet$Key" (TX2 1).2.1 (TX2 1).2.2.1 ∈ wsX7_openThenGoOn := by decide +kernel
  have hi2 : ∀ w ∈ u_ws RX2 TX2 3, w ∈ wsX7_openThenGoOn := by decide +kernel
  have hd_X0_lateAt : yX0_lateAt.cls = RX0 ∧ yX0_lateAt.cls ≠ "java/lang/invoke/MethodHandle" ∧ yX0_lateAt.cls ≠ "java/lang/invoke/VarHandle" ∧ (parseMethodDescriptor yX0_lateAt.desc).map (fun d => d.parameters.length) = some 1 := by decide +kernel
  have hd_X0_lateAt_U : "KeyOnStreet$House" ≠ "java/lang/invoke/MethodHandle" ∧ "KeyOnStreet$House" ≠ "java/lang/invoke/VarHandle" ∧ (parseMethodDescriptor "(I)I").map (fun d => d.parameters.length) = some 1 := by decide +kernel
  have hd_X1_lateAt_O : "KeyOnStreet$House" ≠ "java/lang/invoke/MethodHandle" ∧ "KeyOnStreet$House" ≠ "java/lang/invoke/VarHandle" ∧ (parseMethodDescriptor "(I)I").map (fun d => d.parameters.length) = some 1 := by decide +kernel
  have hc_lateAt : Cond.code ⟨"KeyOnStreet$House", "lateAt", "(I)I"⟩ cX0_lateAt 2 (some .int) ∈ wsX7_openThenGoOn := by decide +kernel
  have hi := hs i hbi
  have hcc := cnt_clr hbi (show i < 6 by omega)
  refine q_iload_n F 2 dX7_openThenGoOn_0 rfl ?_
  refine q_if_lt F (tgt := 10) dX7_openThenGoOn_1 (by decide) (fun h_1 => ?_) (fun h_1 => ?_)
  · skip
    have hn_1 : d < 0 := nf_lt_t0 (by omega) h_1
    omega
  · skip
    have hn_1 : d ≥ 0 := nf_lt_f0 (by omega) h_1
    refine q_iload_n F 2 dX7_openThenGoOn_4 rfl ?_
    refine q_bipush F dX7_openThenGoOn_5 (v := nI 6) (by decide) ?_
    refine q_icmp_lt F (tgt := 11) dX7_openThenGoOn_7 (by decide) (fun h_7 => ?_) (fun h_7 => ?_)
    · skip
      have hn_7 : d < 6 := nf_lt_t (by omega) (by omega) h_7
      refine q_aload_n F 0 dX7_openThenGoOn_11 rfl ?_
      refine q_get F (ci := 7) (j := 0) (v := .ref (t 0)) (List.mem_append_left _ (List.mem_of_getElem? (i := 0) rfl)) rfl hi7 (by decide) hf24_7 rfl rfl dX7_openThenGoOn_12 ?_
      refine q_iload_n F 1 dX7_openThenGoOn_15 rfl ?_
      refine q_callV F (ci := 8) (As := [.int (nI i)]) (rest := []) (List.mem_append_right _ (List.mem_append_right _ (hT _ (List.mem_of_getElem? (i := 0) rfl)))) rfl (c_X8_at l E t T (rC E r (t 0) kd g O BO ++ (ksC kd P M U ++ tl)) (isIn.r _ (isIn.r _ hT)) i (by omega) hn) (List.Perm.refl _) gX7_openThenGoOn_X8_at rfl rfl rfl hd_X8_at ⟨by show 0 + 1 ≤ (2 * m + 5); omega, by show 8 + (3 + 11) + 64 * 0 ≤ 64 * (2 * m + 5); omega⟩ rfl (Nat.le_of_ble_eq_true rfl) dX7_openThenGoOn_16 ⟨Nat.le_of_ble_eq_true rfl, Nat.le_of_ble_eq_true rfl⟩ (fun v_ w_ hvw => ?_)
      rw [hvw.1, hvw.2]
      clear hvw
      refine q_at (pc' := 19) (st' := [.ref (tA T i)]) (ws' := rC E r (t 0) kd g O BO ++ (ksC kd P M U ++ tl)) (k' := 0) (n' := 0) rfl rfl rfl rfl rfl ?_
      refine q_astore F (lv' := [(5, .ref (tA T i)), (0, .ref (r 0)), (1, .int (nI i)), (2, .int (nI d)), (3, .int (wb b 6)), (4, .int lt)]) dX7_openThenGoOn_19 (by decide) rfl ?_
      refine q_aload_n F 1 dX7_openThenGoOn_21 rfl ?_
      refine q_get F (ci := 7) (j := 1) (v := .ref (r 1)) (List.mem_append_left _ (List.mem_of_getElem? (i := 0) rfl)) rfl hi7 (by decide) hf11_7 rfl rfl dX7_openThenGoOn_22 ?_
      refine q_iload_n F 3 dX7_openThenGoOn_25 rfl ?_
      refine q_iconst F dX7_openThenGoOn_26 (v := nI 1) (by decide) ?_
      refine q_iadd F dX7_openThenGoOn_27 ?_
      refine q_toi (nI (d + 1)) (nI_add _ _) ?_
      refine q_ald3 F (r := some (kd (d + 1))) (List.mem_append_left _ (List.mem_of_getElem? (i := 1) rfl)) (d + 1) rfl (by omega) (by decide) (if_pos (by omega)) dX7_openThenGoOn_28 ?_
      refine q_at (pc' := 29) (st' := [.ref (kd (d + 1))]) (ws' := rC E r (t 0) kd g O BO ++ (ksC kd P M U ++ tl)) (k' := 0) (n' := 0) rfl rfl rfl rfl rfl ?_
      refine q_astore F (lv' := [(6, .ref (kd (d + 1))), (5, .ref (tA T i)), (0, .ref (r 0)), (1, .int (nI i)), (2, .int (nI d)), (3, .int (wb b 6)), (4, .int lt)]) dX7_openThenGoOn_29 (by decide) rfl ?_
      refine q_aload F 0 dX7_openThenGoOn_31 rfl ?_
      refine q_aload_n F 2 dX7_openThenGoOn_33 rfl ?_
      refine q_get F (ci := 7) (j := 1) (v := .ref (r 1)) (List.mem_append_left _ (List.mem_of_getElem? (i := 0) rfl)) rfl hi7 (by decide) hf11_7 rfl rfl dX7_openThenGoOn_34 ?_
      refine q_iload_n F 4 dX7_openThenGoOn_37 rfl ?_
      refine q_ald3 F (r := some (kd d)) (List.mem_append_left _ (List.mem_of_getElem? (i := 1) rfl)) d rfl (by omega) (by decide) (if_pos (by omega)) dX7_openThenGoOn_38 ?_
      refine q_at (pc' := 39) (st' := [.ref (kd d), .ref (kd (d + 1))]) (ws' := rC E r (t 0) kd g O BO ++ (ksC kd P M U ++ tl)) (k' := 0) (n' := 0) rfl rfl rfl rfl rfl ?_
      refine q_perm pf1 ?_
      refine q_perm (ks_split (d + 1) (by omega)) ?_
      refine q_callV F (ci := 2) (As := [.ref (kd d)]) (rest := []) (List.mem_append_left _ (List.mem_of_getElem? (i := 0) rfl)) rfl (c_X2_copyFrom l E (kd (d + 1)) (kd d) (P (d + 1)) (M (d + 1)) (U (d + 1)) (P d) (M d) (U d) _ (List.mem_append_left _ (kr_mem (d := d) (e := d + 1) (by omega) (by omega)))) (List.Perm.refl _) gX7_openThenGoOn_X2_copyFrom rfl rfl rfl hd_X2_copyFrom ⟨by show 1 + 1 ≤ (2 * m + 5); omega, by show 8 + (2 + 11) + 64 * 1 ≤ 64 * (2 * m + 5); omega⟩ rfl (Nat.le_of_ble_eq_true rfl) dX7_openThenGoOn_39 ⟨Nat.le_of_ble_eq_true rfl, Nat.le_of_ble_eq_true rfl⟩ (fun v_ w_ hvw => ?_)
      rw [hvw.1, hvw.2]
      clear hvw
      refine q_at (pc' := 42) (st' := []) (ws' := kC (kd (d + 1)) (P d) (M d) (U d) ++ (ksR kd P M U (d + 1) ++ (rC E r (t 0) kd g O BO ++ tl))) (k' := 0) (n' := 0) rfl rfl rfl rfl rfl ?_
      refine q_aload F 0 dX7_openThenGoOn_42 rfl ?_
      refine q_aload F 1 dX7_openThenGoOn_44 rfl ?_
      refine q_callV F (ci := 2) (As := [.ref (tA T i)]) (rest := []) (List.mem_append_left _ (List.mem_of_getElem? (i := 0) rfl)) rfl (c_X2_bringTo l E (tK T i) (kd (d + 1)) (tA T i) (P d) (M d) (U d) (tP T i) (tL T i) (tE T i) (ksR kd P M U (d + 1) ++ (rC E r (t 0) kd g O BO ++ tl)) (hH i (by omega)).1 (((isHs.r _ (isHs.r _ hH)) : isHs T (ksR kd P M U (d + 1) ++ (rC E r (t 0) kd g O BO ++ tl))) i (by omega)).2) (List.Perm.refl _) gX7_openThenGoOn_X2_bringTo rfl rfl rfl hd_X2_bringTo ⟨by show 2 + 1 ≤ (2 * m + 5); omega, by show 8 + (5 + 11) + 64 * 2 ≤ 64 * (2 * m + 5); omega⟩ rfl (Nat.le_of_ble_eq_true rfl) dX7_openThenGoOn_46 ⟨Nat.le_of_ble_eq_true rfl, Nat.le_of_ble_eq_true rfl⟩ (fun v_ w_ hvw => ?_)
      rw [hvw.1, hvw.2]
      clear hvw
      refine q_at (pc' := 49) (st' := []) (ws' := kC (kd (d + 1)) (tP T i) (brg (tK T i) (tP T i) (P d) (M d) (U d)) (kpu (tK T i) (brg (tK T i) (tP T i) (P d) (M d) (U d))) ++ (ksR kd P M U (d + 1) ++ (rC E r (t 0) kd g O BO ++ tl))) (k' := 0) (n' := 0) rfl rfl rfl rfl rfl ?_
      refine q_aload_n F 2 dX7_openThenGoOn_49 rfl ?_
      refine q_get F (ci := 7) (j := 2) (v := .ref (r 2)) (List.mem_append_right _ (List.mem_append_right _ (List.mem_append_left _ (List.mem_of_getElem? (i := 0) rfl)))) rfl hi7 (by decide) hf17_7 rfl rfl dX7_openThenGoOn_50 ?_
      refine q_iload_n F 4 dX7_openThenGoOn_53 rfl ?_
      refine q_iload_n F 3 dX7_openThenGoOn_54 rfl ?_
      refine q_perm pf2 ?_
      refine q_iast F 2 rfl d rfl (by omega) (by decide) dX7_openThenGoOn_55 (ws' := rC E r (t 0) kd g (upd O d (nI i)) BO ++ (kC (kd (d + 1)) (tP T i) (brg (tK T i) (tP T i) (P d) (M d) (U d)) (kpu (tK T i) (brg (tK T i) (tP T i) (P d) (M d) (U d))) ++ (ksR kd P M U (d + 1) ++ tl))) rfl ?_
      refine q_aload_n F 2 dX7_openThenGoOn_56 rfl ?_
      refine q_get F (ci := 7) (j := 5) (v := .int (g 5)) (List.mem_append_left _ (List.mem_of_getElem? (i := 0) rfl)) rfl hi7 (by decide) hf29_7 rfl rfl dX7_openThenGoOn_57 ?_
      refine q_toi (bI cl) (h5) ?_
      refine q_if_eq F (tgt := 76) dX7_openThenGoOn_60 (by decide) (fun h_60 => ?_) (fun h_60 => ?_)
      · skip
        have hb_60 := bI_0 h_60
        refine q_iconst F dX7_openThenGoOn_76 (v := nI 0) (by decide) ?_
        refine q_istore F (lv' := [(7, .int (nI 0)), (6, .ref (kd (d + 1))), (5, .ref (tA T i)), (0, .ref (r 0)), (1, .int (nI i)), (2, .int (nI d)), (3, .int (wb b 6)), (4, .int lt)]) dX7_openThenGoOn_77 (by decide) rfl ?_
        refine q_aload_n F 3 dX7_openThenGoOn_79 rfl ?_
        refine q_iload_n F 5 dX7_openThenGoOn_80 rfl ?_
        refine q_iconst F dX7_openThenGoOn_81 (v := nI 1) (by decide) ?_
        refine q_iadd F dX7_openThenGoOn_82 ?_
        refine q_toi (nI (d + 1)) (nI_add _ _) ?_
        refine q_iload_n F 6 dX7_openThenGoOn_83 rfl ?_
        refine q_iconst F dX7_openThenGoOn_84 (v := nI 1) (by decide) ?_
        refine q_iload_n F 4 dX7_openThenGoOn_85 rfl ?_
        refine q_ishl F dX7_openThenGoOn_86 ?_
        refine q_iconst F dX7_openThenGoOn_87 (v := (-1)) (by decide) ?_
        refine q_ixor F dX7_openThenGoOn_88 ?_
        refine q_iand F dX7_openThenGoOn_89 ?_
        refine q_toi (wb (clr b i) 6) (wb_clr b (by omega)) ?_
        refine q_iload F 7 dX7_openThenGoOn_90 rfl ?_
        refine q_iload F 0 dX7_openThenGoOn_92 rfl ?_
        refine q_iadd F dX7_openThenGoOn_94 ?_
        refine q_perm pf1 ?_
        refine q_perm pf2 ?_
        refine q_perm pf1 ?_
        refine q_perm (ks_join (d + 1) (by omega)) ?_
        refine q_perm pf1 ?_
        refine q_callV F (ci := 7) (As := [.int (nI (d + 1)), .int (wb (clr b i) 6), .int (lt + (nI 0))]) (rest := []) (List.mem_append_left _ (List.mem_of_getElem? (i := 0) rfl)) rfl (ih r t kd T g (upd O d (nI i)) BO (upd P (d + 1) (tP T i)) (upd M (d + 1) (brg (tK T i) (tP T i) (P d) (M d) (U d))) (upd U (d + 1) (kpu (tK T i) (brg (tK T i) (tP T i) (P d) (M d) (U d)))) cl mf (clr b i) (d + 1) (lt + (nI 0)) tl hT hH hn h5 h6 (fun j hj => hs j (by simp only [clr, Bool.and_eq_true] at hj; exact hj.1)) (by omega) (by omega)) (List.Perm.refl _) gX7_openThenGoOn_X7_goOn rfl rfl rfl hd_X7_goOn ⟨by show (2 * m + 4) + 1 ≤ (2 * m + 5); omega, by show 8 + (6 + 11) + 64 * (2 * m + 4) ≤ 64 * (2 * m + 5); omega⟩ rfl (Nat.le_of_ble_eq_true rfl) dX7_openThenGoOn_95 ⟨Nat.le_of_ble_eq_true rfl, Nat.le_of_ble_eq_true rfl⟩ (fun v_ w_ hvw => ?_)
        obtain ⟨hv_, g8, O8, BO8, P8, M8, U8, hw_, ha8, h58, h68, hO8, hK8⟩ := hvw
        rw [hv_, hw_]
        refine q_at (pc' := 98) (st' := []) (ws' := rC E r (t 0) kd g8 O8 BO8 ++ (ksC kd P8 M8 U8 ++ tl)) (k' := 0) (n' := 0) rfl rfl rfl rfl rfl ?_
        refine q_vret F hr_ dX7_openThenGoOn_98 (hp_ _ _ ⟨rfl, g8, O8, BO8, P8, M8, U8, rfl, ?_, h58, h68, fun j hj => (hO8 j (by omega)).trans (pk_un (by omega)), fun j hj => ⟨(hK8 j (by omega)).1.trans (pk_un (by omega)), (hK8 j (by omega)).2.1.trans (pk_un (by omega)), (hK8 j (by omega)).2.2.trans (pk_un (by omega))⟩⟩)
        have eX : ltC cl (tK T i) (tL T i) (tE T i) (brg (tK T i) (tP T i) (P d) (M d) (U d)) = nI 0 := by rw [hb_60]; rfl
        rw [ha8, pk_us, pk_us, pk_us, eX]
      · skip
        have hb_60 := bI_1 h_60
        refine q_aload F 1 dX7_openThenGoOn_63 rfl ?_
        refine q_aload F 0 dX7_openThenGoOn_65 rfl ?_
        refine q_get F (ci := 2) (j := 1) (v := .int (brg (tK T i) (tP T i) (P d) (M d) (U d))) (List.mem_append_right _ (List.mem_append_left _ (List.mem_of_getElem? (i := 0) rfl))) rfl hi2 (by decide) hf73_2 rfl rfl dX7_openThenGoOn_67 ?_
        obtain ⟨hk5_0, hm5_0⟩ := hH i (by omega)
        rcases (show tK T i = 0 ∨ tK T i = 1 ∨ tK T i = 2 ∨ tK T i = 3 ∨ tK T i = 4 by omega) with ek | ek | ek | ek | ek
        · skip
          rw [ek] at hm5_0
          have hm6 : (tA T i, (.inr (0, [.int (tP T i), .int (tL T i), .int (tE T i)]) : va_E)) ∈ tl := hm5_0
          refine q_callV F (ci := 0) (As := [.int (brg (tK T i) (tP T i) (P d) (M d) (U d))]) (rest := []) (List.mem_append_right _ (List.mem_append_right _ (List.mem_append_right _ hm6))) rfl (c_X0_lateAt_0 l E _ (tA T i) (tP T i) (tL T i) (tE T i) (brg (tK T i) (tP T i) (P d) (M d) (U d)) (List.mem_append_right _ (List.mem_append_right _ (List.mem_append_right _ hm6)))) (List.Perm.refl _) gX7_openThenGoOn_X0_lateAt rfl rfl rfl hd_X0_lateAt ⟨by show 1 + 1 ≤ (2 * m + 5); omega, by show 8 + (2 + 11) + 64 * 1 ≤ 64 * (2 * m + 5); omega⟩ rfl (Nat.le_of_ble_eq_true rfl) dX7_openThenGoOn_70 ⟨Nat.le_of_ble_eq_true rfl, Nat.le_of_ble_eq_true rfl⟩ (fun v_ w_ hvw => ?_)
          rw [hvw.1, hvw.2]
          clear hvw
          refine q_at (pc' := 73) (st' := [.int (mx (nI 0) ((brg (tK T i) (tP T i) (P d) (M d) (U d)) - nI 4 * (tL T i)) * (tE T i))]) (ws' := rC E r (t 0) kd g (upd O d (nI i)) BO ++ (kC (kd (d + 1)) (tP T i) (brg (tK T i) (tP T i) (P d) (M d) (U d)) (kpu (tK T i) (brg (tK T i) (tP T i) (P d) (M d) (U d))) ++ (ksR kd P M U (d + 1) ++ tl))) (k' := 0) (n' := 0) rfl rfl rfl rfl rfl ?_
          refine q_goto F (tgt := 77) dX7_openThenGoOn_73 (by decide) ?_
          refine q_istore F (lv' := [(7, .int (mx (nI 0) ((brg (tK T i) (tP T i) (P d) (M d) (U d)) - nI 4 * (tL T i)) * (tE T i))), (6, .ref (kd (d + 1))), (5, .ref (tA T i)), (0, .ref (r 0)), (1, .int (nI i)), (2, .int (nI d)), (3, .int (wb b 6)), (4, .int lt)]) dX7_openThenGoOn_77 (by decide) rfl ?_
          refine q_aload_n F 3 dX7_openThenGoOn_79 rfl ?_
          refine q_iload_n F 5 dX7_openThenGoOn_80 rfl ?_
          refine q_iconst F dX7_openThenGoOn_81 (v := nI 1) (by decide) ?_
          refine q_iadd F dX7_openThenGoOn_82 ?_
          refine q_toi (nI (d + 1)) (nI_add _ _) ?_
          refine q_iload_n F 6 dX7_openThenGoOn_83 rfl ?_
          refine q_iconst F dX7_openThenGoOn_84 (v := nI 1) (by decide) ?_
          refine q_iload_n F 4 dX7_openThenGoOn_85 rfl ?_
          refine q_ishl F dX7_openThenGoOn_86 ?_
          refine q_iconst F dX7_openThenGoOn_87 (v := (-1)) (by decide) ?_
          refine q_ixor F dX7_openThenGoOn_88 ?_
          refine q_iand F dX7_openThenGoOn_89 ?_
          refine q_toi (wb (clr b i) 6) (wb_clr b (by omega)) ?_
          refine q_iload F 7 dX7_openThenGoOn_90 rfl ?_
          refine q_iload F 0 dX7_openThenGoOn_92 rfl ?_
          refine q_iadd F dX7_openThenGoOn_94 ?_
          refine q_perm pf1 ?_
          refine q_perm pf2 ?_
          refine q_perm pf1 ?_
          refine q_perm (ks_join (d + 1) (by omega)) ?_
          refine q_perm pf1 ?_
          refine q_callV F (ci := 7) (As := [.int (nI (d + 1)), .int (wb (clr b i) 6), .int (lt + (mx (nI 0) ((brg (tK T i) (tP T i) (P d) (M d) (U d)) - nI 4 * (tL T i)) * (tE T i)))]) (rest := []) (List.mem_append_left _ (List.mem_of_getElem? (i := 0) rfl)) rfl (ih r t kd T g (upd O d (nI i)) BO (upd P (d + 1) (tP T i)) (upd M (d + 1) (brg (tK T i) (tP T i) (P d) (M d) (U d))) (upd U (d + 1) (kpu (tK T i) (brg (tK T i) (tP T i) (P d) (M d) (U d)))) cl mf (clr b i) (d + 1) (lt + (mx (nI 0) ((brg (tK T i) (tP T i) (P d) (M d) (U d)) - nI 4 * (tL T i)) * (tE T i))) tl hT hH hn h5 h6 (fun j hj => hs j (by simp only [clr, Bool.and_eq_true] at hj; exact hj.1)) (by omega) (by omega)) (List.Perm.refl _) gX7_openThenGoOn_X7_goOn rfl rfl rfl hd_X7_goOn ⟨by show (2 * m + 4) + 1 ≤ (2 * m + 5); omega, by show 8 + (6 + 11) + 64 * (2 * m + 4) ≤ 64 * (2 * m + 5); omega⟩ rfl (Nat.le_of_ble_eq_true rfl) dX7_openThenGoOn_95 ⟨Nat.le_of_ble_eq_true rfl, Nat.le_of_ble_eq_true rfl⟩ (fun v_ w_ hvw => ?_)
          obtain ⟨hv_, g8, O8, BO8, P8, M8, U8, hw_, ha8, h58, h68, hO8, hK8⟩ := hvw
          rw [hv_, hw_]
          refine q_at (pc' := 98) (st' := []) (ws' := rC E r (t 0) kd g8 O8 BO8 ++ (ksC kd P8 M8 U8 ++ tl)) (k' := 0) (n' := 0) rfl rfl rfl rfl rfl ?_
          refine q_vret F hr_ dX7_openThenGoOn_98 (hp_ _ _ ⟨rfl, g8, O8, BO8, P8, M8, U8, rfl, ?_, h58, h68, fun j hj => (hO8 j (by omega)).trans (pk_un (by omega)), fun j hj => ⟨(hK8 j (by omega)).1.trans (pk_un (by omega)), (hK8 j (by omega)).2.1.trans (pk_un (by omega)), (hK8 j (by omega)).2.2.trans (pk_un (by omega))⟩⟩)
          have eX : ltC cl (tK T i) (tL T i) (tE T i) (brg (tK T i) (tP T i) (P d) (M d) (U d)) = mx (nI 0) ((brg (tK T i) (tP T i) (P d) (M d) (U d)) - nI 4 * (tL T i)) * (tE T i) := by rw [hb_60, ek]; rfl
          rw [ha8, pk_us, pk_us, pk_us, eX]
        · skip
          rw [ek] at hm5_0
          have hm6 : (tA T i, (.inr (4, [.int (tP T i), .int (tL T i), .int (tE T i)]) : va_E)) ∈ tl := hm5_0
          refine q_callU F (ci := 4) (As := [.int (brg (tK T i) (tP T i) (P d) (M d) (U d))]) (rest := []) (List.mem_append_right _ (List.mem_append_right _ (List.mem_append_right _ hm6))) rfl (c_X0_lateAt_4 l E _ (tA T i) (tP T i) (tL T i) (tE T i) (brg (tK T i) (tP T i) (P d) (M d) (U d)) (List.mem_append_right _ (List.mem_append_right _ (List.mem_append_right _ hm6)))) (List.Perm.refl _) gX7_openThenGoOn_X0_lateAt_u119X4 rfl rfl rfl rfl hd_X0_lateAt_U ⟨by show 1 + 1 ≤ (2 * m + 5); omega, by show 8 + (2 + 11) + 64 * 1 ≤ 64 * (2 * m + 5); omega⟩ rfl (Nat.le_of_ble_eq_true rfl) dX7_openThenGoOn_70 ⟨Nat.le_of_ble_eq_true rfl, Nat.le_of_ble_eq_true rfl⟩ (fun v_ w_ hvw => ?_)
          rw [hvw.1, hvw.2]
          clear hvw
          refine q_at (pc' := 73) (st' := [.int (mx (nI 0) ((brg (tK T i) (tP T i) (P d) (M d) (U d)) - nI 4 * (tL T i)) * (tE T i))]) (ws' := rC E r (t 0) kd g (upd O d (nI i)) BO ++ (kC (kd (d + 1)) (tP T i) (brg (tK T i) (tP T i) (P d) (M d) (U d)) (kpu (tK T i) (brg (tK T i) (tP T i) (P d) (M d) (U d))) ++ (ksR kd P M U (d + 1) ++ tl))) (k' := 0) (n' := 0) rfl rfl rfl rfl rfl ?_
          refine q_goto F (tgt := 77) dX7_openThenGoOn_73 (by decide) ?_
          refine q_istore F (lv' := [(7, .int (mx (nI 0) ((brg (tK T i) (tP T i) (P d) (M d) (U d)) - nI 4 * (tL T i)) * (tE T i))), (6, .ref (kd (d + 1))), (5, .ref (tA T i)), (0, .ref (r 0)), (1, .int (nI i)), (2, .int (nI d)), (3, .int (wb b 6)), (4, .int lt)]) dX7_openThenGoOn_77 (by decide) rfl ?_
          refine q_aload_n F 3 dX7_openThenGoOn_79 rfl ?_
          refine q_iload_n F 5 dX7_openThenGoOn_80 rfl ?_
          refine q_iconst F dX7_openThenGoOn_81 (v := nI 1) (by decide) ?_
          refine q_iadd F dX7_openThenGoOn_82 ?_
          refine q_toi (nI (d + 1)) (nI_add _ _) ?_
          refine q_iload_n F 6 dX7_openThenGoOn_83 rfl ?_
          refine q_iconst F dX7_openThenGoOn_84 (v := nI 1) (by decide) ?_
          refine q_iload_n F 4 dX7_openThenGoOn_85 rfl ?_
          refine q_ishl F dX7_openThenGoOn_86 ?_
          refine q_iconst F dX7_openThenGoOn_87 (v := (-1)) (by decide) ?_
          refine q_ixor F dX7_openThenGoOn_88 ?_
          refine q_iand F dX7_openThenGoOn_89 ?_
          refine q_toi (wb (clr b i) 6) (wb_clr b (by omega)) ?_
          refine q_iload F 7 dX7_openThenGoOn_90 rfl ?_
          refine q_iload F 0 dX7_openThenGoOn_92 rfl ?_
          refine q_iadd F dX7_openThenGoOn_94 ?_
          refine q_perm pf1 ?_
          refine q_perm pf2 ?_
          refine q_perm pf1 ?_
          refine q_perm (ks_join (d + 1) (by omega)) ?_
          refine q_perm pf1 ?_
          refine q_callV F (ci := 7) (As := [.int (nI (d + 1)), .int (wb (clr b i) 6), .int (lt + (mx (nI 0) ((brg (tK T i) (tP T i) (P d) (M d) (U d)) - nI 4 * (tL T i)) * (tE T i)))]) (rest := []) (List.mem_append_left _ (List.mem_of_getElem? (i := 0) rfl)) rfl (ih r t kd T g (upd O d (nI i)) BO (upd P (d + 1) (tP T i)) (upd M (d + 1) (brg (tK T i) (tP T i) (P d) (M d) (U d))) (upd U (d + 1) (kpu (tK T i) (brg (tK T i) (tP T i) (P d) (M d) (U d)))) cl mf (clr b i) (d + 1) (lt + (mx (nI 0) ((brg (tK T i) (tP T i) (P d) (M d) (U d)) - nI 4 * (tL T i)) * (tE T i))) tl hT hH hn h5 h6 (fun j hj => hs j (by simp only [clr, Bool.and_eq_true] at hj; exact hj.1)) (by omega) (by omega)) (List.Perm.refl _) gX7_openThenGoOn_X7_goOn rfl rfl rfl hd_X7_goOn ⟨by show (2 * m + 4) + 1 ≤ (2 * m + 5); omega, by show 8 + (6 + 11) + 64 * (2 * m + 4) ≤ 64 * (2 * m + 5); omega⟩ rfl (Nat.le_of_ble_eq_true rfl) dX7_openThenGoOn_95 ⟨Nat.le_of_ble_eq_true rfl, Nat.le_of_ble_eq_true rfl⟩ (fun v_ w_ hvw => ?_)
          obtain ⟨hv_, g8, O8, BO8, P8, M8, U8, hw_, ha8, h58, h68, hO8, hK8⟩ := hvw
          rw [hv_, hw_]
          refine q_at (pc' := 98) (st' := []) (ws' := rC E r (t 0) kd g8 O8 BO8 ++ (ksC kd P8 M8 U8 ++ tl)) (k' := 0) (n' := 0) rfl rfl rfl rfl rfl ?_
          refine q_vret F hr_ dX7_openThenGoOn_98 (hp_ _ _ ⟨rfl, g8, O8, BO8, P8, M8, U8, rfl, ?_, h58, h68, fun j hj => (hO8 j (by omega)).trans (pk_un (by omega)), fun j hj => ⟨(hK8 j (by omega)).1.trans (pk_un (by omega)), (hK8 j (by omega)).2.1.trans (pk_un (by omega)), (hK8 j (by omega)).2.2.trans (pk_un (by omega))⟩⟩)
          have eX : ltC cl (tK T i) (tL T i) (tE T i) (brg (tK T i) (tP T i) (P d) (M d) (U d)) = mx (nI 0) ((brg (tK T i) (tP T i) (P d) (M d) (U d)) - nI 4 * (tL T i)) * (tE T i) := by rw [hb_60, ek]; rfl
          rw [ha8, pk_us, pk_us, pk_us, eX]
        · skip
          rw [ek] at hm5_0
          have hm6 : (tA T i, (.inr (1, [.int (tP T i), .int (tL T i), .int (tE T i)]) : va_E)) ∈ tl := hm5_0
          refine q_callO F (ci := 1) (As := [.int (brg (tK T i) (tP T i) (P d) (M d) (U d))]) (rest := []) (List.mem_append_right _ (List.mem_append_right _ (List.mem_append_right _ hm6))) rfl (c_X1_lateAt l E _ (tA T i) (brg (tK T i) (tP T i) (P d) (M d) (U d))) (List.Perm.refl _) gX7_openThenGoOn_X1_lateAt_u119X1 rfl rfl rfl hc_lateAt hd_X1_lateAt_O ⟨by show 0 + 1 ≤ (2 * m + 5); omega, by show 8 + (2 + 11) + 64 * 0 ≤ 64 * (2 * m + 5); omega⟩ rfl (Nat.le_of_ble_eq_true rfl) dX7_openThenGoOn_70 ⟨Nat.le_of_ble_eq_true rfl, Nat.le_of_ble_eq_true rfl⟩ (fun v_ w_ hvw => ?_)
          rw [hvw.1, hvw.2]
          clear hvw
          refine q_at (pc' := 73) (st' := [.int (nI 0)]) (ws' := rC E r (t 0) kd g (upd O d (nI i)) BO ++ (kC (kd (d + 1)) (tP T i) (brg (tK T i) (tP T i) (P d) (M d) (U d)) (kpu (tK T i) (brg (tK T i) (tP T i) (P d) (M d) (U d))) ++ (ksR kd P M U (d + 1) ++ tl))) (k' := 0) (n' := 0) rfl rfl rfl rfl rfl ?_
          refine q_goto F (tgt := 77) dX7_openThenGoOn_73 (by decide) ?_
          refine q_istore F (lv' := [(7, .int (nI 0)), (6, .ref (kd (d + 1))), (5, .ref (tA T i)), (0, .ref (r 0)), (1, .int (nI i)), (2, .int (nI d)), (3, .int (wb b 6)), (4, .int lt)]) dX7_openThenGoOn_77 (by decide) rfl ?_
          refine q_aload_n F 3 dX7_openThenGoOn_79 rfl ?_
          refine q_iload_n F 5 dX7_openThenGoOn_80 rfl ?_
          refine q_iconst F dX7_openThenGoOn_81 (v := nI 1) (by decide) ?_
          refine q_iadd F dX7_openThenGoOn_82 ?_
          refine q_toi (nI (d + 1)) (nI_add _ _) ?_
          refine q_iload_n F 6 dX7_openThenGoOn_83 rfl ?_
          refine q_iconst F dX7_openThenGoOn_84 (v := nI 1) (by decide) ?_
          refine q_iload_n F 4 dX7_openThenGoOn_85 rfl ?_
          refine q_ishl F dX7_openThenGoOn_86 ?_
          refine q_iconst F dX7_openThenGoOn_87 (v := (-1)) (by decide) ?_
          refine q_ixor F dX7_openThenGoOn_88 ?_
          refine q_iand F dX7_openThenGoOn_89 ?_
          refine q_toi (wb (clr b i) 6) (wb_clr b (by omega)) ?_
          refine q_iload F 7 dX7_openThenGoOn_90 rfl ?_
          refine q_iload F 0 dX7_openThenGoOn_92 rfl ?_
          refine q_iadd F dX7_openThenGoOn_94 ?_
          refine q_perm pf1 ?_
          refine q_perm pf2 ?_
          refine q_perm pf1 ?_
          refine q_perm (ks_join (d + 1) (by omega)) ?_
          refine q_perm pf1 ?_
          refine q_callV F (ci := 7) (As := [.int (nI (d + 1)), .int (wb (clr b i) 6), .int (lt + (nI 0))]) (rest := []) (List.mem_append_left _ (List.mem_of_getElem? (i := 0) rfl)) rfl (ih r t kd T g (upd O d (nI i)) BO (upd P (d + 1) (tP T i)) (upd M (d + 1) (brg (tK T i) (tP T i) (P d) (M d) (U d))) (upd U (d + 1) (kpu (tK T i) (brg (tK T i) (tP T i) (P d) (M d) (U d)))) cl mf (clr b i) (d + 1) (lt + (nI 0)) tl hT hH hn h5 h6 (fun j hj => hs j (by simp only [clr, Bool.and_eq_true] at hj; exact hj.1)) (by omega) (by omega)) (List.Perm.refl _) gX7_openThenGoOn_X7_goOn rfl rfl rfl hd_X7_goOn ⟨by show (2 * m + 4) + 1 ≤ (2 * m + 5); omega, by show 8 + (6 + 11) + 64 * (2 * m + 4) ≤ 64 * (2 * m + 5); omega⟩ rfl (Nat.le_of_ble_eq_true rfl) dX7_openThenGoOn_95 ⟨Nat.le_of_ble_eq_true rfl, Nat.le_of_ble_eq_true rfl⟩ (fun v_ w_ hvw => ?_)
          obtain ⟨hv_, g8, O8, BO8, P8, M8, U8, hw_, ha8, h58, h68, hO8, hK8⟩ := hvw
          rw [hv_, hw_]
          refine q_at (pc' := 98) (st' := []) (ws' := rC E r (t 0) kd g8 O8 BO8 ++ (ksC kd P8 M8 U8 ++ tl)) (k' := 0) (n' := 0) rfl rfl rfl rfl rfl ?_
          refine q_vret F hr_ dX7_openThenGoOn_98 (hp_ _ _ ⟨rfl, g8, O8, BO8, P8, M8, U8, rfl, ?_, h58, h68, fun j hj => (hO8 j (by omega)).trans (pk_un (by omega)), fun j hj => ⟨(hK8 j (by omega)).1.trans (pk_un (by omega)), (hK8 j (by omega)).2.1.trans (pk_un (by omega)), (hK8 j (by omega)).2.2.trans (pk_un (by omega))⟩⟩)
          have eX : ltC cl (tK T i) (tL T i) (tE T i) (brg (tK T i) (tP T i) (P d) (M d) (U d)) = nI 0 := by rw [hb_60, ek]; rfl
          rw [ha8, pk_us, pk_us, pk_us, eX]
        · skip
          rw [ek] at hm5_0
          have hm6 : (tA T i, (.inr (9, [.int (tP T i), .int (tL T i), .int (tE T i)]) : va_E)) ∈ tl := hm5_0
          refine q_callU F (ci := 9) (As := [.int (brg (tK T i) (tP T i) (P d) (M d) (U d))]) (rest := []) (List.mem_append_right _ (List.mem_append_right _ (List.mem_append_right _ hm6))) rfl (c_X0_lateAt_9 l E _ (tA T i) (tP T i) (tL T i) (tE T i) (brg (tK T i) (tP T i) (P d) (M d) (U d)) (List.mem_append_right _ (List.mem_append_right _ (List.mem_append_right _ hm6)))) (List.Perm.refl _) gX7_openThenGoOn_X0_lateAt_u119X9 rfl rfl rfl rfl hd_X0_lateAt_U ⟨by show 1 + 1 ≤ (2 * m + 5); omega, by show 8 + (2 + 11) + 64 * 1 ≤ 64 * (2 * m + 5); omega⟩ rfl (Nat.le_of_ble_eq_true rfl) dX7_openThenGoOn_70 ⟨Nat.le_of_ble_eq_true rfl, Nat.le_of_ble_eq_true rfl⟩ (fun v_ w_ hvw => ?_)
          rw [hvw.1, hvw.2]
          clear hvw
          refine q_at (pc' := 73) (st' := [.int (mx (nI 0) ((brg (tK T i) (tP T i) (P d) (M d) (U d)) - nI 4 * (tL T i)) * (tE T i))]) (ws' := rC E r (t 0) kd g (upd O d (nI i)) BO ++ (kC (kd (d + 1)) (tP T i) (brg (tK T i) (tP T i) (P d) (M d) (U d)) (kpu (tK T i) (brg (tK T i) (tP T i) (P d) (M d) (U d))) ++ (ksR kd P M U (d + 1) ++ tl))) (k' := 0) (n' := 0) rfl rfl rfl rfl rfl ?_
          refine q_goto F (tgt := 77) dX7_openThenGoOn_73 (by decide) ?_
          refine q_istore F (lv' := [(7, .int (mx (nI 0) ((brg (tK T i) (tP T i) (P d) (M d) (U d)) - nI 4 * (tL T i)) * (tE T i))), (6, .ref (kd (d + 1))), (5, .ref (tA T i)), (0, .ref (r 0)), (1, .int (nI i)), (2, .int (nI d)), (3, .int (wb b 6)), (4, .int lt)]) dX7_openThenGoOn_77 (by decide) rfl ?_
          refine q_aload_n F 3 dX7_openThenGoOn_79 rfl ?_
          refine q_iload_n F 5 dX7_openThenGoOn_80 rfl ?_
          refine q_iconst F dX7_openThenGoOn_81 (v := nI 1) (by decide) ?_
          refine q_iadd F dX7_openThenGoOn_82 ?_
          refine q_toi (nI (d + 1)) (nI_add _ _) ?_
          refine q_iload_n F 6 dX7_openThenGoOn_83 rfl ?_
          refine q_iconst F dX7_openThenGoOn_84 (v := nI 1) (by decide) ?_
          refine q_iload_n F 4 dX7_openThenGoOn_85 rfl ?_
          refine q_ishl F dX7_openThenGoOn_86 ?_
          refine q_iconst F dX7_openThenGoOn_87 (v := (-1)) (by decide) ?_
          refine q_ixor F dX7_openThenGoOn_88 ?_
          refine q_iand F dX7_openThenGoOn_89 ?_
          refine q_toi (wb (clr b i) 6) (wb_clr b (by omega)) ?_
          refine q_iload F 7 dX7_openThenGoOn_90 rfl ?_
          refine q_iload F 0 dX7_openThenGoOn_92 rfl ?_
          refine q_iadd F dX7_openThenGoOn_94 ?_
          refine q_perm pf1 ?_
          refine q_perm pf2 ?_
          refine q_perm pf1 ?_
          refine q_perm (ks_join (d + 1) (by omega)) ?_
          refine q_perm pf1 ?_
          refine q_callV F (ci := 7) (As := [.int (nI (d + 1)), .int (wb (clr b i) 6), .int (lt + (mx (nI 0) ((brg (tK T i) (tP T i) (P d) (M d) (U d)) - nI 4 * (tL T i)) * (tE T i)))]) (rest := []) (List.mem_append_left _ (List.mem_of_getElem? (i := 0) rfl)) rfl (ih r t kd T g (upd O d (nI i)) BO (upd P (d + 1) (tP T i)) (upd M (d + 1) (brg (tK T i) (tP T i) (P d) (M d) (U d))) (upd U (d + 1) (kpu (tK T i) (brg (tK T i) (tP T i) (P d) (M d) (U d)))) cl mf (clr b i) (d + 1) (lt + (mx (nI 0) ((brg (tK T i) (tP T i) (P d) (M d) (U d)) - nI 4 * (tL T i)) * (tE T i))) tl hT hH hn h5 h6 (fun j hj => hs j (by simp only [clr, Bool.and_eq_true] at hj; exact hj.1)) (by omega) (by omega)) (List.Perm.refl _) gX7_openThenGoOn_X7_goOn rfl rfl rfl hd_X7_goOn ⟨by show (2 * m + 4) + 1 ≤ (2 * m + 5); omega, by show 8 + (6 + 11) + 64 * (2 * m + 4) ≤ 64 * (2 * m + 5); omega⟩ rfl (Nat.le_of_ble_eq_true rfl) dX7_openThenGoOn_95 ⟨Nat.le_of_ble_eq_true rfl, Nat.le_of_ble_eq_true rfl⟩ (fun v_ w_ hvw => ?_)
          obtain ⟨hv_, g8, O8, BO8, P8, M8, U8, hw_, ha8, h58, h68, hO8, hK8⟩ := hvw
          rw [hv_, hw_]
          refine q_at (pc' := 98) (st' := []) (ws' := rC E r (t 0) kd g8 O8 BO8 ++ (ksC kd P8 M8 U8 ++ tl)) (k' := 0) (n' := 0) rfl rfl rfl rfl rfl ?_
          refine q_vret F hr_ dX7_openThenGoOn_98 (hp_ _ _ ⟨rfl, g8, O8, BO8, P8, M8, U8, rfl, ?_, h58, h68, fun j hj => (hO8 j (by omega)).trans (pk_un (by omega)), fun j hj => ⟨(hK8 j (by omega)).1.trans (pk_un (by omega)), (hK8 j (by omega)).2.1.trans (pk_un (by omega)), (hK8 j (by omega)).2.2.trans (pk_un (by omega))⟩⟩)
          have eX : ltC cl (tK T i) (tL T i) (tE T i) (brg (tK T i) (tP T i) (P d) (M d) (U d)) = mx (nI 0) ((brg (tK T i) (tP T i) (P d) (M d) (U d)) - nI 4 * (tL T i)) * (tE T i) := by rw [hb_60, ek]; rfl
          rw [ha8, pk_us, pk_us, pk_us, eX]
        · skip
          rw [ek] at hm5_0
          have hm6 : (tA T i, (.inr (3, [.int (tP T i), .int (tL T i), .int (tE T i)]) : va_E)) ∈ tl := hm5_0
          refine q_callU F (ci := 3) (As := [.int (brg (tK T i) (tP T i) (P d) (M d) (U d))]) (rest := []) (List.mem_append_right _ (List.mem_append_right _ (List.mem_append_right _ hm6))) rfl (c_X0_lateAt_3 l E _ (tA T i) (tP T i) (tL T i) (tE T i) (brg (tK T i) (tP T i) (P d) (M d) (U d)) (List.mem_append_right _ (List.mem_append_right _ (List.mem_append_right _ hm6)))) (List.Perm.refl _) gX7_openThenGoOn_X0_lateAt_u119X3 rfl rfl rfl rfl hd_X0_lateAt_U ⟨by show 1 + 1 ≤ (2 * m + 5); omega, by show 8 + (2 + 11) + 64 * 1 ≤ 64 * (2 * m + 5); omega⟩ rfl (Nat.le_of_ble_eq_true rfl) dX7_openThenGoOn_70 ⟨Nat.le_of_ble_eq_true rfl, Nat.le_of_ble_eq_true rfl⟩ (fun v_ w_ hvw => ?_)
          rw [hvw.1, hvw.2]
          clear hvw
          refine q_at (pc' := 73) (st' := [.int (mx (nI 0) ((brg (tK T i) (tP T i) (P d) (M d) (U d)) - nI 4 * (tL T i)) * (tE T i))]) (ws' := rC E r (t 0) kd g (upd O d (nI i)) BO ++ (kC (kd (d + 1)) (tP T i) (brg (tK T i) (tP T i) (P d) (M d) (U d)) (kpu (tK T i) (brg (tK T i) (tP T i) (P d) (M d) (U d))) ++ (ksR kd P M U (d + 1) ++ tl))) (k' := 0) (n' := 0) rfl rfl rfl rfl rfl ?_
          refine q_goto F (tgt := 77) dX7_openThenGoOn_73 (by decide) ?_
          refine q_istore F (lv' := [(7, .int (mx (nI 0) ((brg (tK T i) (tP T i) (P d) (M d) (U d)) - nI 4 * (tL T i)) * (tE T i))), (6, .ref (kd (d + 1))), (5, .ref (tA T i)), (0, .ref (r 0)), (1, .int (nI i)), (2, .int (nI d)), (3, .int (wb b 6)), (4, .int lt)]) dX7_openThenGoOn_77 (by decide) rfl ?_
          refine q_aload_n F 3 dX7_openThenGoOn_79 rfl ?_
          refine q_iload_n F 5 dX7_openThenGoOn_80 rfl ?_
          refine q_iconst F dX7_openThenGoOn_81 (v := nI 1) (by decide) ?_
          refine q_iadd F dX7_openThenGoOn_82 ?_
          refine q_toi (nI (d + 1)) (nI_add _ _) ?_
          refine q_iload_n F 6 dX7_openThenGoOn_83 rfl ?_
          refine q_iconst F dX7_openThenGoOn_84 (v := nI 1) (by decide) ?_
          refine q_iload_n F 4 dX7_openThenGoOn_85 rfl ?_
          refine q_ishl F dX7_openThenGoOn_86 ?_
          refine q_iconst F dX7_openThenGoOn_87 (v := (-1)) (by decide) ?_
          refine q_ixor F dX7_openThenGoOn_88 ?_
          refine q_iand F dX7_openThenGoOn_89 ?_
          refine q_toi (wb (clr b i) 6) (wb_clr b (by omega)) ?_
          refine q_iload F 7 dX7_openThenGoOn_90 rfl ?_
          refine q_iload F 0 dX7_openThenGoOn_92 rfl ?_
          refine q_iadd F dX7_openThenGoOn_94 ?_
          refine q_perm pf1 ?_
          refine q_perm pf2 ?_
          refine q_perm pf1 ?_
          refine q_perm (ks_join (d + 1) (by omega)) ?_
          refine q_perm pf1 ?_
          refine q_callV F (ci := 7) (As := [.int (nI (d + 1)), .int (wb (clr b i) 6), .int (lt + (mx (nI 0) ((brg (tK T i) (tP T i) (P d) (M d) (U d)) - nI 4 * (tL T i)) * (tE T i)))]) (rest := []) (List.mem_append_left _ (List.mem_of_getElem? (i := 0) rfl)) rfl (ih r t kd T g (upd O d (nI i)) BO (upd P (d + 1) (tP T i)) (upd M (d + 1) (brg (tK T i) (tP T i) (P d) (M d) (U d))) (upd U (d + 1) (kpu (tK T i) (brg (tK T i) (tP T i) (P d) (M d) (U d)))) cl mf (clr b i) (d + 1) (lt + (mx (nI 0) ((brg (tK T i) (tP T i) (P d) (M d) (U d)) - nI 4 * (tL T i)) * (tE T i))) tl hT hH hn h5 h6 (fun j hj => hs j (by simp only [clr, Bool.and_eq_true] at hj; exact hj.1)) (by omega) (by omega)) (List.Perm.refl _) gX7_openThenGoOn_X7_goOn rfl rfl rfl hd_X7_goOn ⟨by show (2 * m + 4) + 1 ≤ (2 * m + 5); omega, by show 8 + (6 + 11) + 64 * (2 * m + 4) ≤ 64 * (2 * m + 5); omega⟩ rfl (Nat.le_of_ble_eq_true rfl) dX7_openThenGoOn_95 ⟨Nat.le_of_ble_eq_true rfl, Nat.le_of_ble_eq_true rfl⟩ (fun v_ w_ hvw => ?_)
          obtain ⟨hv_, g8, O8, BO8, P8, M8, U8, hw_, ha8, h58, h68, hO8, hK8⟩ := hvw
          rw [hv_, hw_]
          refine q_at (pc' := 98) (st' := []) (ws' := rC E r (t 0) kd g8 O8 BO8 ++ (ksC kd P8 M8 U8 ++ tl)) (k' := 0) (n' := 0) rfl rfl rfl rfl rfl ?_
          refine q_vret F hr_ dX7_openThenGoOn_98 (hp_ _ _ ⟨rfl, g8, O8, BO8, P8, M8, U8, rfl, ?_, h58, h68, fun j hj => (hO8 j (by omega)).trans (pk_un (by omega)), fun j hj => ⟨(hK8 j (by omega)).1.trans (pk_un (by omega)), (hK8 j (by omega)).2.1.trans (pk_un (by omega)), (hK8 j (by omega)).2.2.trans (pk_un (by omega))⟩⟩)
          have eX : ltC cl (tK T i) (tL T i) (tE T i) (brg (tK T i) (tP T i) (P d) (M d) (U d)) = mx (nI 0) ((brg (tK T i) (tP T i) (P d) (M d) (U d)) - nI 4 * (tL T i)) * (tE T i) := by rw [hb_60, ek]; rfl
          rw [ha8, pk_us, pk_us, pk_us, eX]
    · skip
      have hn_7 : d ≥ 6 := nf_lt_f (by omega) (by omega) h_7
      omega

theorem c_X7_go (l : Launch) (E : gEnv) : ∀ m, GoK l E m
  | 0 => fun r t kd T g O BO P M U cl mf b d lt tl hT hH hn h5 h6 hs hc hm => absurd hm (Nat.not_lt_zero _)
  | m + 1 => fun r t kd T g O BO P M U cl mf b d lt tl hT hH hn h5 h6 hs hc hm => c_X7_goOn l E m (fun r t kd T g O BO P M U cl mf b i d lt tl hT hH hn h5 h6 hs hbi hc hm => c_X7_openThenGoOn l E m (c_X7_go l E m) r t kd T g O BO P M U cl mf b i d lt tl hT hH hn h5 h6 hs hc hbi hm) r t kd T g O BO P M U cl mf b d lt tl hT hH hn h5 h6 hs hc hm
set_option maxHeartbeats 4000000 in
set_option maxRecDepth 100000 in
theorem c_X7_seek (l : Launch) (E : gEnv) (r t kd : Nat → Nat) (T : gTown) (g O BO P M U : Nat → Int32) (cl mf : Bool) (b : Nat → Bool) (o : Nat) (x kp km ku : Int32) (tl : va_W) (hT : isIn (tC E t T) tl) (hH : isHs T tl) (hn : tN T ≤ 6) (h5 : g 5 = bI cl) (h6 : g 6 = bI mf) (hs : ∀ j, b j = true → j < tN T) (hO : isIn (kC o kp km ku) tl) : Cn l E yX7_seek wsX7_seek (rmL 19 0 0) [.ref (r 0), .int (wb b 6), .int x, .ref o] (rC E r (t 0) kd g O BO ++ (ksC kd P M U ++ tl)) 0 0 (skP E r (t 0) kd tl (dfC T cl mf 7 b x km ku (nI 0) 0 O (ac0 BO)) (g 5) (g 6) none) := by
  refine Cn.of (own := RX7) (cc := cX7_seek) (maxL := 4) (ret := none) (lv := [(0, .ref (r 0)), (1, .int (wb b 6)), (2, .int x), (3, .ref o)]) (by decide) rfl rfl (Nat.le_of_ble_eq_true rfl) rfl ?_
  intro p_ e_ s_ m_ args_ below_ meth_ c_ A_ P_ hp_ F hr_ hnm_
  have hk57 : Cond.constant RX7 57 (nI 2147483647) ∈ wsX7_seek := by decide +kernel
  have hf70_7 : Cond.fieldLink RX7 70 "KeyOnStreet$Rounds" (TX7 7).2.1 (TX7 7).2.2.1 ∈ wsX7_seek := by decide +kernel
  have hi7 : ∀ w ∈ u_ws RX7 TX7 9, w ∈ wsX7_seek := by decide +kernel
  have hf54_7 : Cond.fieldLink RX7 54 "KeyOnStreet$Rounds" (TX7 8).2.1 (TX7 8).2.2.1 ∈ wsX7_seek := by decide +kernel
  have hf67_7 : Cond.fieldLink RX7 67 "KeyOnStreet$Rounds" (TX7 4).2.1 (TX7 4).2.2.1 ∈ wsX7_seek := by decide +kernel
  have hf11_7 : Cond.fieldLink RX7 11 "KeyOnStreet$Rounds" (TX7 1).2.1 (TX7 1).2.2.1 ∈ wsX7_seek := by decide +kernel
  have hf73_2 : Cond.fieldLink RX7 73 "KeyOnStreet$Key" (TX2 1).2.1 (TX2 1).2.2.1 ∈ wsX7_seek := by decide +kernel
  have hi2 : ∀ w ∈ u_ws RX2 TX2 3, w ∈ wsX7_seek := by decide +kernel
  have hf76_2 : Cond.fieldLink RX7 76 "KeyOnStreet$Key" (TX2 2).2.1 (TX2 2).2.2.1 ∈ wsX7_seek := by decide +kernel
  have hd_X2_put : yX2_put.cls = RX2 ∧ yX2_put.cls ≠ "java/lang/invoke/MethodHandle" ∧ yX2_put.cls ≠ "java/lang/invoke/VarHandle" ∧ (parseMethodDescriptor yX2_put.desc).map (fun d => d.parameters.length) = some 3 := by decide +kernel
  have hd_X7_goOn : yX7_goOn.cls = RX7 ∧ yX7_goOn.cls ≠ "java/lang/invoke/MethodHandle" ∧ yX7_goOn.cls ≠ "java/lang/invoke/VarHandle" ∧ (parseMethodDescriptor yX7_goOn.desc).map (fun d => d.parameters.length) = some 3 := by decide +kernel
  refine q_aload_n F 0 dX7_seek_0 rfl ?_
  refine q_ldc F hk57 dX7_seek_1 ?_
  refine q_put F (j := 7) 0 rfl rfl hi7 tyX7 tyX7_ok nmX7 (by decide) hf70_7 rfl rfl rfl rfl (Nat.le_of_ble_eq_true rfl) dX7_seek_3 (ws' := rC E r (t 0) kd (upd g 7 (nI 2147483647)) O BO ++ (ksC kd P M U ++ tl)) rfl ?_
  refine q_aload_n F 0 dX7_seek_6 rfl ?_
  refine q_ldc F hk57 dX7_seek_7 ?_
  refine q_put F (j := 8) 0 rfl rfl hi7 tyX7 tyX7_ok nmX7 (by decide) hf54_7 rfl rfl rfl rfl (Nat.le_of_ble_eq_true rfl) dX7_seek_9 (ws' := rC E r (t 0) kd (upd (upd g 7 (nI 2147483647)) 8 (nI 2147483647)) O BO ++ (ksC kd P M U ++ tl)) rfl ?_
  refine q_aload_n F 0 dX7_seek_12 rfl ?_
  refine q_iconst F dX7_seek_13 (v := nI 0) (by decide) ?_
  refine q_put F (j := 4) 0 rfl rfl hi7 tyX7 tyX7_ok nmX7 (by decide) hf67_7 rfl rfl rfl rfl (Nat.le_of_ble_eq_true rfl) dX7_seek_14 (ws' := rC E r (t 0) kd (upd (upd (upd g 4 (nI 0)) 7 (nI 2147483647)) 8 (nI 2147483647)) O BO ++ (ksC kd P M U ++ tl)) rfl ?_
  refine q_aload_n F 0 dX7_seek_17 rfl ?_
  refine q_get F (ci := 7) (j := 1) (v := .ref (r 1)) (List.mem_append_left _ (List.mem_of_getElem? (i := 0) rfl)) rfl hi7 (by decide) hf11_7 rfl rfl dX7_seek_18 ?_
  refine q_iconst F dX7_seek_21 (v := nI 0) (by decide) ?_
  refine q_ald3 F (r := some (kd 0)) (List.mem_append_left _ (List.mem_of_getElem? (i := 1) rfl)) 0 rfl (by omega) (by decide) (if_pos (by omega)) dX7_seek_22 ?_
  refine q_at (pc' := 23) (st' := [.ref (kd 0)]) (ws' := rC E r (t 0) kd (upd (upd (upd g 4 (nI 0)) 7 (nI 2147483647)) 8 (nI 2147483647)) O BO ++ (ksC kd P M U ++ tl)) (k' := 0) (n' := 0) rfl rfl rfl rfl rfl ?_
  refine q_iload_n F 2 dX7_seek_23 rfl ?_
  refine q_aload_n F 3 dX7_seek_24 rfl ?_
  refine q_get F (ci := 2) (j := 1) (v := .int km) (List.mem_append_right _ (List.mem_append_right _ (hO _ (List.mem_of_getElem? (i := 0) rfl)))) rfl hi2 (by decide) hf73_2 rfl rfl dX7_seek_25 ?_
  refine q_aload_n F 3 dX7_seek_28 rfl ?_
  refine q_get F (ci := 2) (j := 2) (v := .int ku) (List.mem_append_right _ (List.mem_append_right _ (hO _ (List.mem_of_getElem? (i := 0) rfl)))) rfl hi2 (by decide) hf76_2 rfl rfl dX7_seek_29 ?_
  refine q_perm pf1 ?_
  refine q_perm (ks_split 0 (by decide)) ?_
  refine q_callV F (ci := 2) (As := [.int x, .int km, .int ku]) (rest := []) (List.mem_append_left _ (List.mem_of_getElem? (i := 0) rfl)) rfl (c_X2_put l E (kd 0) (P 0) (M 0) (U 0) x km ku _) (List.Perm.refl _) gX7_seek_X2_put rfl rfl rfl hd_X2_put ⟨by decide, by decide⟩ rfl (Nat.le_of_ble_eq_true rfl) dX7_seek_32 ⟨Nat.le_of_ble_eq_true rfl, Nat.le_of_ble_eq_true rfl⟩ (fun v_ w_ hvw => ?_)
  rw [hvw.1, hvw.2]
  clear hvw
  refine q_at (pc' := 35) (st' := []) (ws' := kC (kd 0) x km ku ++ (ksR kd P M U 0 ++ (rC E r (t 0) kd (upd (upd (upd g 4 (nI 0)) 7 (nI 2147483647)) 8 (nI 2147483647)) O BO ++ tl))) (k' := 0) (n' := 0) rfl rfl rfl rfl rfl ?_
  refine q_aload_n F 0 dX7_seek_35 rfl ?_
  refine q_iconst F dX7_seek_36 (v := nI 0) (by decide) ?_
  refine q_iload_n F 1 dX7_seek_37 rfl ?_
  refine q_iconst F dX7_seek_38 (v := nI 0) (by decide) ?_
  refine q_perm (ks_join 0 (by decide)) ?_
  refine q_perm pf1 ?_
  refine q_callV F (ci := 7) (As := [.int (nI 0), .int (wb b 6), .int (nI 0)]) (rest := []) (List.mem_append_left _ (List.mem_of_getElem? (i := 0) rfl)) rfl (c_X7_go l E 7 r t kd T (upd (upd (upd g 4 (nI 0)) 7 (nI 2147483647)) 8 (nI 2147483647)) O BO (upd P 0 x) (upd M 0 km) (upd U 0 ku) cl mf b 0 (nI 0) tl hT hH hn h5 h6 hs (by have := cnt_le b 6; omega) (by have := cnt_le b 6; omega)) (List.Perm.refl _) gX7_seek_X7_goOn rfl rfl rfl hd_X7_goOn ⟨by decide, by decide⟩ rfl (Nat.le_of_ble_eq_true rfl) dX7_seek_39 ⟨Nat.le_of_ble_eq_true rfl, Nat.le_of_ble_eq_true rfl⟩ (fun v_ w_ hvw => ?_)
  obtain ⟨hv_, g8, O8, BO8, P8, M8, U8, hw_, ha8, h58, h68, hO8, hK8⟩ := hvw
  rw [hv_, hw_]
  refine q_at (pc' := 42) (st' := []) (ws' := rC E r (t 0) kd g8 O8 BO8 ++ (ksC kd P8 M8 U8 ++ tl)) (k' := 0) (n' := 0) rfl rfl rfl rfl rfl ?_
  refine q_vret F hr_ dX7_seek_42 (hp_ _ _ ⟨rfl, g8, O8, BO8, P8, M8, U8, rfl, ha8, h58, h68⟩)

set_option maxHeartbeats 4000000 in
set_option maxRecDepth 100000 in
theorem c_X7_seekBest (l : Launch) (E : gEnv) (r t kd a : Nat → Nat) (T : gTown) (g O BO P M U : Nat → Int32) (sn : Int32) (B : Nat → Nat → Int32) (kp km ku : Int32) (tl : va_W) (hT : isIn (tC E t T) tl) (hH : isHs T tl) (hn : tN T ≤ 6) (hN : isIn (nC E a (t 0) sn B) tl) (hK : isIn (kC (a 1) kp km ku) tl) (hB : okN T (B 2)) (x : Int32) : Cn l E yX7_seekBest wsX7_seekBest (rmL 20 0 0) [.ref (r 0), .ref (a 0), .int x] (rC E r (t 0) kd g O BO ++ (ksC kd P M U ++ tl)) 0 0 (skP E r (t 0) kd tl (dfC T true true 7 (shN (B 2)) x km ku (nI 0) 0 O (ac0 BO)) (nI 1) (nI 1) none) := by
  refine Cn.of (own := RX7) (cc := cX7_seekBest) (maxL := 3) (ret := none) (lv := [(0, .ref (r 0)), (1, .ref (a 0)), (2, .int x)]) (by decide) rfl rfl (Nat.le_of_ble_eq_true rfl) rfl ?_
  intro p_ e_ s_ m_ args_ below_ meth_ c_ A_ P_ hp_ F hr_ hnm_
  have hf29_7 : Cond.fieldLink RX7 29 "KeyOnStreet$Rounds" (TX7 5).2.1 (TX7 5).2.2.1 ∈ wsX7_seekBest := by decide +kernel
  have hi7 : ∀ w ∈ u_ws RX7 TX7 9, w ∈ wsX7_seekBest := by decide +kernel
  have hf33_7 : Cond.fieldLink RX7 33 "KeyOnStreet$Rounds" (TX7 6).2.1 (TX7 6).2.2.1 ∈ wsX7_seekBest := by decide +kernel
  have hd_X5_waiting : yX5_waiting.cls = RX5 ∧ yX5_waiting.cls ≠ "java/lang/invoke/MethodHandle" ∧ yX5_waiting.cls ≠ "java/lang/invoke/VarHandle" ∧ (parseMethodDescriptor yX5_waiting.desc).map (fun d => d.parameters.length) = some 0 := by decide +kernel
  have hf42_5 : Cond.fieldLink RX7 42 "KeyOnStreet$Night" (TX5 1).2.1 (TX5 1).2.2.1 ∈ wsX7_seekBest := by decide +kernel
  have hi5 : ∀ w ∈ u_ws RX5 TX5 10, w ∈ wsX7_seekBest := by decide +kernel
  have hd_X7_seek : yX7_seek.cls = RX7 ∧ yX7_seek.cls ≠ "java/lang/invoke/MethodHandle" ∧ yX7_seek.cls ≠ "java/lang/invoke/VarHandle" ∧ (parseMethodDescriptor yX7_seek.desc).map (fun d => d.parameters.length) = some 3 := by decide +kernel
  refine q_aload_n F 0 dX7_seekBest_0 rfl ?_
  refine q_iconst F dX7_seekBest_1 (v := nI 1) (by decide) ?_
  refine q_put F (j := 5) 0 rfl rfl hi7 tyX7 tyX7_ok nmX7 (by decide) hf29_7 rfl rfl (by decide) rfl (Nat.le_of_ble_eq_true rfl) dX7_seekBest_2 (ws' := rC E r (t 0) kd (upd g 5 (nI 1)) O BO ++ (ksC kd P M U ++ tl)) rfl ?_
  refine q_aload_n F 0 dX7_seekBest_5 rfl ?_
  refine q_iconst F dX7_seekBest_6 (v := nI 1) (by decide) ?_
  refine q_put F (j := 6) 0 rfl rfl hi7 tyX7 tyX7_ok nmX7 (by decide) hf33_7 rfl rfl (by decide) rfl (Nat.le_of_ble_eq_true rfl) dX7_seekBest_7 (ws' := rC E r (t 0) kd (upd (upd g 5 (nI 1)) 6 (nI 1)) O BO ++ (ksC kd P M U ++ tl)) rfl ?_
  refine q_aload_n F 0 dX7_seekBest_10 rfl ?_
  refine q_aload_n F 1 dX7_seekBest_11 rfl ?_
  refine q_callV F (ci := 5) (As := []) (rest := [.ref (r 0)]) (List.mem_append_right _ (List.mem_append_right _ (hN _ (List.mem_of_getElem? (i := 0) rfl)))) rfl (c_X5_waiting l E a t T sn B kp km ku (rC E r (t 0) kd (upd (upd g 5 (nI 1)) 6 (nI 1)) O BO ++ (ksC kd P M U ++ tl)) (isIn.r _ (isIn.r _ hN)) (isIn.r _ (isIn.r _ hK)) (isIn.r _ (isIn.r _ hT)) (isHs.r _ (isHs.r _ hH)) hn ) (List.Perm.refl _) gX7_seekBest_X5_waiting rfl rfl rfl hd_X5_waiting ⟨by decide, by decide⟩ rfl (Nat.le_of_ble_eq_true rfl) dX7_seekBest_12 ⟨Nat.le_of_ble_eq_true rfl, Nat.le_of_ble_eq_true rfl⟩ (fun v_ w_ hvw => ?_)
  rw [hvw.1, hvw.2]
  clear hvw
  refine q_at (pc' := 15) (st' := [.int (wtB (B 2) 6), .ref (r 0)]) (ws' := rC E r (t 0) kd (upd (upd g 5 (nI 1)) 6 (nI 1)) O BO ++ (ksC kd P M U ++ tl)) (k' := 0) (n' := 0) rfl rfl rfl rfl rfl ?_
  refine q_toi (wb (shN (B 2)) 6) (shN_wt _) ?_
  refine q_iload_n F 2 dX7_seekBest_15 rfl ?_
  refine q_aload_n F 1 dX7_seekBest_16 rfl ?_
  refine q_get F (ci := 5) (j := 1) (v := .ref (a 1)) (List.mem_append_right _ (List.mem_append_right _ (hN _ (List.mem_of_getElem? (i := 0) rfl)))) rfl hi5 (by decide) hf42_5 rfl rfl dX7_seekBest_17 ?_
  refine q_perm pf1 ?_
  refine q_perm pf1 ?_
  refine q_callV F (ci := 7) (As := [.int (wb (shN (B 2)) 6), .int x, .ref (a 1)]) (rest := []) (List.mem_append_left _ (List.mem_of_getElem? (i := 0) rfl)) rfl (c_X7_seek l E r t kd T (upd (upd g 5 (nI 1)) 6 (nI 1)) O BO P M U true true (shN (B 2)) (a 1) x kp km ku tl hT hH hn rfl rfl (shN_lt hB) hK) (List.Perm.refl _) gX7_seekBest_X7_seek rfl rfl rfl hd_X7_seek ⟨by decide, by decide⟩ rfl (Nat.le_of_ble_eq_true rfl) dX7_seekBest_20 ⟨Nat.le_of_ble_eq_true rfl, Nat.le_of_ble_eq_true rfl⟩ (fun v_ w_ hvw => ?_)
  obtain ⟨hv_, g8_0, O8_0, BO8_0, P8_0, M8_0, U8_0, hw_, ha8_0, h58_0, h68_0⟩ := hvw
  rw [hv_, hw_]
  clear hv_ hw_
  refine q_at (pc' := 23) (st' := []) (ws' := rC E r (t 0) kd g8_0 O8_0 BO8_0 ++ (ksC kd P8_0 M8_0 U8_0 ++ tl)) (k' := 0) (n' := 0) rfl rfl rfl rfl rfl ?_
  refine q_vret F hr_ dX7_seekBest_23 (hp_ _ _ ⟨rfl, _, _, _, _, _, _, rfl, ha8_0, h58_0, h68_0⟩)

set_option maxHeartbeats 4000000 in
set_option maxRecDepth 100000 in
theorem c_X7_seekShortest (l : Launch) (E : gEnv) (r t kd a : Nat → Nat) (T : gTown) (g O BO P M U : Nat → Int32) (sn : Int32) (B : Nat → Nat → Int32) (kp km ku : Int32) (tl : va_W) (hT : isIn (tC E t T) tl) (hH : isHs T tl) (hn : tN T ≤ 6) (hN : isIn (nC E a (t 0) sn B) tl) (hK : isIn (kC (a 1) kp km ku) tl) (hB : okN T (B 2)) : Cn l E yX7_seekShortest wsX7_seekShortest (rmL 20 0 0) [.ref (r 0), .ref (a 0)] (rC E r (t 0) kd g O BO ++ (ksC kd P M U ++ tl)) 0 0 (skP E r (t 0) kd tl (dfC T false true 7 (shN (B 2)) kp km ku (nI 0) 0 O (ac0 BO)) (nI 0) (nI 1) (some (.int (dfC T false true 7 (shN (B 2)) kp km ku (nI 0) 0 O (ac0 BO)).2.1))) := by
  refine Cn.of (own := RX7) (cc := cX7_seekShortest) (maxL := 2) (ret := (some .int)) (lv := [(0, .ref (r 0)), (1, .ref (a 0))]) (by decide) rfl rfl (Nat.le_of_ble_eq_true rfl) rfl ?_
  intro p_ e_ s_ m_ args_ below_ meth_ c_ A_ P_ hp_ F hr_ hnm_
  have hf29_7 : Cond.fieldLink RX7 29 "KeyOnStreet$Rounds" (TX7 5).2.1 (TX7 5).2.2.1 ∈ wsX7_seekShortest := by decide +kernel
  have hi7 : ∀ w ∈ u_ws RX7 TX7 9, w ∈ wsX7_seekShortest := by decide +kernel
  have hf33_7 : Cond.fieldLink RX7 33 "KeyOnStreet$Rounds" (TX7 6).2.1 (TX7 6).2.2.1 ∈ wsX7_seekShortest := by decide +kernel
  have hd_X5_waiting : yX5_waiting.cls = RX5 ∧ yX5_waiting.cls ≠ "java/lang/invoke/MethodHandle" ∧ yX5_waiting.cls ≠ "java/lang/invoke/VarHandle" ∧ (parseMethodDescriptor yX5_waiting.desc).map (fun d => d.parameters.length) = some 0 := by decide +kernel
  have hf42_5 : Cond.fieldLink RX7 42 "KeyOnStreet$Night" (TX5 1).2.1 (TX5 1).2.2.1 ∈ wsX7_seekShortest := by decide +kernel
  have hi5 : ∀ w ∈ u_ws RX5 TX5 10, w ∈ wsX7_seekShortest := by decide +kernel
  have hf50_2 : Cond.fieldLink RX7 50 "KeyOnStreet$Key" (TX2 0).2.1 (TX2 0).2.2.1 ∈ wsX7_seekShortest := by decide +kernel
  have hi2 : ∀ w ∈ u_ws RX2 TX2 3, w ∈ wsX7_seekShortest := by decide +kernel
  have hd_X7_seek : yX7_seek.cls = RX7 ∧ yX7_seek.cls ≠ "java/lang/invoke/MethodHandle" ∧ yX7_seek.cls ≠ "java/lang/invoke/VarHandle" ∧ (parseMethodDescriptor yX7_seek.desc).map (fun d => d.parameters.length) = some 3 := by decide +kernel
  have hf54_7 : Cond.fieldLink RX7 54 "KeyOnStreet$Rounds" (TX7 8).2.1 (TX7 8).2.2.1 ∈ wsX7_seekShortest := by decide +kernel
  refine q_aload_n F 0 dX7_seekShortest_0 rfl ?_
  refine q_iconst F dX7_seekShortest_1 (v := nI 0) (by decide) ?_
  refine q_put F (j := 5) 0 rfl rfl hi7 tyX7 tyX7_ok nmX7 (by decide) hf29_7 rfl rfl (by decide) rfl (Nat.le_of_ble_eq_true rfl) dX7_seekShortest_2 (ws' := rC E r (t 0) kd (upd g 5 (nI 0)) O BO ++ (ksC kd P M U ++ tl)) rfl ?_
  refine q_aload_n F 0 dX7_seekShortest_5 rfl ?_
  refine q_iconst F dX7_seekShortest_6 (v := nI 1) (by decide) ?_
  refine q_put F (j := 6) 0 rfl rfl hi7 tyX7 tyX7_ok nmX7 (by decide) hf33_7 rfl rfl (by decide) rfl (Nat.le_of_ble_eq_true rfl) dX7_seekShortest_7 (ws' := rC E r (t 0) kd (upd (upd g 5 (nI 0)) 6 (nI 1)) O BO ++ (ksC kd P M U ++ tl)) rfl ?_
  refine q_aload_n F 0 dX7_seekShortest_10 rfl ?_
  refine q_aload_n F 1 dX7_seekShortest_11 rfl ?_
  refine q_callV F (ci := 5) (As := []) (rest := [.ref (r 0)]) (List.mem_append_right _ (List.mem_append_right _ (hN _ (List.mem_of_getElem? (i := 0) rfl)))) rfl (c_X5_waiting l E a t T sn B kp km ku (rC E r (t 0) kd (upd (upd g 5 (nI 0)) 6 (nI 1)) O BO ++ (ksC kd P M U ++ tl)) (isIn.r _ (isIn.r _ hN)) (isIn.r _ (isIn.r _ hK)) (isIn.r _ (isIn.r _ hT)) (isHs.r _ (isHs.r _ hH)) hn ) (List.Perm.refl _) gX7_seekShortest_X5_waiting rfl rfl rfl hd_X5_waiting ⟨by decide, by decide⟩ rfl (Nat.le_of_ble_eq_true rfl) dX7_seekShortest_12 ⟨Nat.le_of_ble_eq_true rfl, Nat.le_of_ble_eq_true rfl⟩ (fun v_ w_ hvw => ?_)
  rw [hvw.1, hvw.2]
  clear hvw
  refine q_at (pc' := 15) (st' := [.int (wtB (B 2) 6), .ref (r 0)]) (ws' := rC E r (t 0) kd (upd (upd g 5 (nI 0)) 6 (nI 1)) O BO ++ (ksC kd P M U ++ tl)) (k' := 0) (n' := 0) rfl rfl rfl rfl rfl ?_
  refine q_toi (wb (shN (B 2)) 6) (shN_wt _) ?_
  refine q_aload_n F 1 dX7_seekShortest_15 rfl ?_
  refine q_get F (ci := 5) (j := 1) (v := .ref (a 1)) (List.mem_append_right _ (List.mem_append_right _ (hN _ (List.mem_of_getElem? (i := 0) rfl)))) rfl hi5 (by decide) hf42_5 rfl rfl dX7_seekShortest_16 ?_
  refine q_get F (ci := 2) (j := 0) (v := .int kp) (List.mem_append_right _ (List.mem_append_right _ (hK _ (List.mem_of_getElem? (i := 0) rfl)))) rfl hi2 (by decide) hf50_2 rfl rfl dX7_seekShortest_19 ?_
  refine q_aload_n F 1 dX7_seekShortest_22 rfl ?_
  refine q_get F (ci := 5) (j := 1) (v := .ref (a 1)) (List.mem_append_right _ (List.mem_append_right _ (hN _ (List.mem_of_getElem? (i := 0) rfl)))) rfl hi5 (by decide) hf42_5 rfl rfl dX7_seekShortest_23 ?_
  refine q_perm pf1 ?_
  refine q_perm pf1 ?_
  refine q_callV F (ci := 7) (As := [.int (wb (shN (B 2)) 6), .int kp, .ref (a 1)]) (rest := []) (List.mem_append_left _ (List.mem_of_getElem? (i := 0) rfl)) rfl (c_X7_seek l E r t kd T (upd (upd g 5 (nI 0)) 6 (nI 1)) O BO P M U false true (shN (B 2)) (a 1) kp kp km ku tl hT hH hn rfl rfl (shN_lt hB) hK) (List.Perm.refl _) gX7_seekShortest_X7_seek rfl rfl rfl hd_X7_seek ⟨by decide, by decide⟩ rfl (Nat.le_of_ble_eq_true rfl) dX7_seekShortest_26 ⟨Nat.le_of_ble_eq_true rfl, Nat.le_of_ble_eq_true rfl⟩ (fun v_ w_ hvw => ?_)
  obtain ⟨hv_, g8_0, O8_0, BO8_0, P8_0, M8_0, U8_0, hw_, ha8_0, h58_0, h68_0⟩ := hvw
  rw [hv_, hw_]
  clear hv_ hw_
  refine q_at (pc' := 29) (st' := []) (ws' := rC E r (t 0) kd g8_0 O8_0 BO8_0 ++ (ksC kd P8_0 M8_0 U8_0 ++ tl)) (k' := 0) (n' := 0) rfl rfl rfl rfl rfl ?_
  refine q_aload_n F 0 dX7_seekShortest_29 rfl ?_
  refine q_get F (ci := 7) (j := 8) (v := .int (g8_0 8)) (List.mem_append_left _ (List.mem_of_getElem? (i := 0) rfl)) rfl hi7 (by decide) hf54_7 rfl rfl dX7_seekShortest_30 ?_
  refine q_iret F hr_ dX7_seekShortest_33 (hp_ _ _ ⟨by rw [← ha8_0], _, _, _, _, _, _, rfl, ha8_0, h58_0, h68_0⟩)

set_option maxHeartbeats 4000000 in
set_option maxRecDepth 100000 in
theorem c_X7_bestHouse (l : Launch) (E : gEnv) (r : Nat → Nat) (t0 : Nat) (kd : Nat → Nat) (g O BO : Nat → Int32) (ws : va_W) (hRd : isIn (rC E r t0 kd g O BO) ws) (j : Nat) (hj : j < 6) : Cn l E yX7_bestHouse wsX7_bestHouse (rmL 0 0 0) [.ref (r 0), .int (nI j)] (ws) 0 0 (fun v w => v = some (.int (if g 4 ≤ nI j then (-1) else BO j)) ∧ w = ws) := by
  refine Cn.of (own := RX7) (cc := cX7_bestHouse) (maxL := 3) (ret := (some .int)) (lv := [(0, .ref (r 0)), (1, .int (nI j))]) (by decide) rfl rfl (Nat.le_of_ble_eq_true rfl) rfl ?_
  intro p_ e_ s_ m_ args_ below_ meth_ c_ A_ P_ hp_ F hr_ hnm_
  have hf67_7 : Cond.fieldLink RX7 67 "KeyOnStreet$Rounds" (TX7 4).2.1 (TX7 4).2.2.1 ∈ wsX7_bestHouse := by decide +kernel
  have hi7 : ∀ w ∈ u_ws RX7 TX7 9, w ∈ wsX7_bestHouse := by decide +kernel
  have hf21_7 : Cond.fieldLink RX7 21 "KeyOnStreet$Rounds" (TX7 3).2.1 (TX7 3).2.2.1 ∈ wsX7_bestHouse := by decide +kernel
  refine q_iload_n F 1 dX7_bestHouse_0 rfl ?_
  refine q_if_lt F (tgt := 22) dX7_bestHouse_1 (by decide) (fun h_1 => ?_) (fun h_1 => ?_)
  · skip
    have hn_1 : j < 0 := nf_lt_t0 (by omega) h_1
    omega
  · skip
    have hn_1 : j ≥ 0 := nf_lt_f0 (by omega) h_1
    refine q_iload_n F 1 dX7_bestHouse_4 rfl ?_
    refine q_aload_n F 0 dX7_bestHouse_5 rfl ?_
    refine q_get F (ci := 7) (j := 4) (v := .int (g 4)) (hRd _ (List.mem_of_getElem? (i := 0) rfl)) rfl hi7 (by decide) hf67_7 rfl rfl dX7_bestHouse_6 ?_
    refine q_icmp_ge F (tgt := 22) dX7_bestHouse_9 (by decide) (fun h_9 => ?_) (fun h_9 => ?_)
    · skip
      have hz_9 := Int32.not_lt.mpr h_9
      refine q_iconst F dX7_bestHouse_22 (v := nI 0) (by decide) ?_
      refine q_istore_n F (lv' := [(2, .int (nI 0)), (0, .ref (r 0)), (1, .int (nI j))]) dX7_bestHouse_23 (by decide) rfl ?_
      refine q_iload_n F 0 dX7_bestHouse_24 rfl ?_
      refine q_if_eq F (tgt := 37) dX7_bestHouse_25 (by decide) (fun h_25 => ?_) (fun h_25 => ?_)
      · skip
        refine q_iconst F dX7_bestHouse_37 (v := (-1)) (by decide) ?_
        refine q_iret F hr_ dX7_bestHouse_38 (hp_ _ _ ⟨congrArg (fun z => some (Value.int z)) ?_, ?_⟩)
        · simp [*]
        · rfl
      · skip
        exact absurd h_25 (by decide)
    · skip
      have hz_9 := Int32.not_le.mp h_9
      refine q_iload_n F 1 dX7_bestHouse_12 rfl ?_
      refine q_bipush F dX7_bestHouse_13 (v := nI 6) (by decide) ?_
      refine q_icmp_ge F (tgt := 22) dX7_bestHouse_15 (by decide) (fun h_15 => ?_) (fun h_15 => ?_)
      · skip
        have hn_15 : j ≥ 6 := nf_ge_t (by omega) (by omega) h_15
        omega
      · skip
        have hn_15 : j < 6 := nf_ge_f (by omega) (by omega) h_15
        refine q_iconst F dX7_bestHouse_18 (v := nI 1) (by decide) ?_
        refine q_goto F (tgt := 23) dX7_bestHouse_19 (by decide) ?_
        refine q_istore_n F (lv' := [(2, .int (nI 1)), (0, .ref (r 0)), (1, .int (nI j))]) dX7_bestHouse_23 (by decide) rfl ?_
        refine q_iload_n F 0 dX7_bestHouse_24 rfl ?_
        refine q_if_eq F (tgt := 37) dX7_bestHouse_25 (by decide) (fun h_25 => ?_) (fun h_25 => ?_)
        · skip
          exact absurd h_25 (by decide)
        · skip
          refine q_aload_n F 1 dX7_bestHouse_28 rfl ?_
          refine q_get F (ci := 7) (j := 3) (v := .ref (r 3)) (hRd _ (List.mem_of_getElem? (i := 0) rfl)) rfl hi7 (by decide) hf21_7 rfl rfl dX7_bestHouse_29 ?_
          refine q_iload_n F 2 dX7_bestHouse_32 rfl ?_
          refine q_iald F (f := BO) (hRd _ (List.mem_of_getElem? (i := 3) rfl)) j rfl (by omega) (by decide) dX7_bestHouse_33 ?_
          refine q_goto F (tgt := 38) dX7_bestHouse_34 (by decide) ?_
          refine q_iret F hr_ dX7_bestHouse_38 (hp_ _ _ ⟨congrArg (fun z => some (Value.int z)) ?_, ?_⟩)
          · simp [*]
          · rfl
