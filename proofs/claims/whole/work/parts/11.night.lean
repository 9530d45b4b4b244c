/-! what the night's methods answer -/
/-- the rank by a law -/
def rkF (T : gTown) (lw : Nat) (f : Nat → Int32) (kp : Int32) (i : Nat) : Int32 := match lw with
  | 0 => f i
  | 1 => ab (kp - tP T i)
  | _ => tL T i
/-- the next by a law among the first i: which, and its rank -/
def nxL (may : Int32) (rk : Nat → Int32) : Nat → Int32 × Int32
  | 0 => ((-1), nI 2147483647)
  | i + 1 => if (may >>> (nI i &&& 31)) &&& nI 1 = nI 1 ∧ rk i < (nxL may rk i).2 then (nI i, rk i) else nxL may rk i
def nxB (T : gTown) (lw : Nat) (f : Nat → Int32) (kp : Int32) : Int32 := (nxL (mayB (mwB T 6) (wtB f 6)) (rkF T lw f kp) (tN T)).1
/-- the next is none, or one of those that are shut out -/
theorem nxL_in (may : Int32) (rk : Nat → Int32) : ∀ i, (nxL may rk i).1 = (-1) ∨ ∃ h, h < i ∧ (nxL may rk i).1 = nI h ∧ (may >>> (nI h &&& 31)) &&& nI 1 = nI 1
  | 0 => Or.inl rfl
  | i + 1 => by
    unfold nxL
    by_cases q : (may >>> (nI i &&& 31)) &&& nI 1 = nI 1 ∧ rk i < (nxL may rk i).2
    · rw [if_pos q]; exact Or.inr ⟨i, Nat.lt_succ_self i, rfl, q.1⟩
    · rw [if_neg q]
      rcases nxL_in may rk i with h | ⟨h, h1, h2, h3⟩
      · exact Or.inl h
      · exact Or.inr ⟨h, Nat.lt_succ_of_lt h1, h2, h3⟩
/-- night falls, house by house -/
def flS (f : Nat → Int32) : Nat → Nat → Int32
  | 0 => f
  | i + 1 => if outB (flS f i) i then upd (flS f i) i (nI 0) else flS f i
def flO (T : gTown) (f g : Nat → Int32) : Nat → Nat → Int32
  | 0 => g
  | i + 1 => if outB (flS f i) i then upd (flO T f g i) i (flO T f g i i + slp (tK T i) (tE T i)) else flO T f g i
def flA (T : gTown) (f : Nat → Int32) : Nat → Int32
  | 0 => nI 0
  | i + 1 => if outB (flS f i) i then flA T f i + slp (tK T i) (tE T i) else flA T f i
def bgB (B : Nat → Nat → Int32) : Nat → Nat → Int32 := fun i => if i = 2 ∨ i = 3 then fun _ => (-1) else if i = 4 ∨ i = 5 then fun _ => nI 0 else B i
/-- one is let in: since, inAt, late -/
def liB (T : gTown) (B : Nat → Nat → Int32) (kp km ku : Int32) (h : Nat) : Nat → Nat → Int32 := va_up (va_up (va_up B 2 (upd (B 2) h (-1))) 3 (upd (B 3) h (brg (tK T h) (tP T h) kp km ku))) 4 (upd (B 4) h (B 4 h + ltA (tK T h) (tL T h) (tE T h) (brg (tK T h) (tP T h) kp km ku)))
/-- a night: its rows, and the key's place, minute and until when it is kept -/
abbrev gNt : Type := (Nat → Nat → Int32) × Int32 × Int32 × Int32
def liN (T : gTown) (N : gNt) (h : Nat) : gNt := (liB T N.1 N.2.1 N.2.2.1 N.2.2.2 h, tP T h, brg (tK T h) (tP T h) N.2.1 N.2.2.1 N.2.2.2, kpu (tK T h) (brg (tK T h) (tP T h) N.2.1 N.2.2.1 N.2.2.2))
/-- which is next by a law in a night -/
def nxN (T : gTown) (lw : Nat) (N : gNt) : Int32 := nxB T lw (N.1 2) N.2.1
/-- all are let in by a law: at most i of them -/
def laN (T : gTown) (lw : Nat) : Nat → gNt → gNt
  | 0, N => N
  | i + 1, N => if nxN T lw N = (-1) then N else laN T lw i (liN T N (nxN T lw N).toNatClampNeg)
def seenB (T : gTown) (f : Nat → Int32) (x m : Int32) : Bool := hsB (tN T) x && !decide (f x.toNatClampNeg = (-1)) && !decide (m < f x.toNatClampNeg)
/-! bits of at most six -/
def wb (b : Nat → Bool) : Nat → Int32
  | 0 => nI 0
  | i + 1 => if b i then wb b i ||| (nI 1 <<< (nI i &&& 31)) else wb b i
theorem wb_cong {b c : Nat → Bool} : ∀ {i : Nat}, (∀ j, j < i → b j = c j) → wb b i = wb c i
  | 0, _ => rfl
  | i + 1, h => by rw [wb, wb, wb_cong (fun j hj => h j (Nat.lt_succ_of_lt hj)), h i (Nat.lt_succ_self i)]
def b6 (b0 b1 b2 b3 b4 b5 : Bool) : Nat → Bool
  | 0 => b0
  | 1 => b1
  | 2 => b2
  | 3 => b3
  | 4 => b4
  | _ => b5
theorem wb_6 (b : Nat → Bool) : wb b 6 = wb (b6 (b 0) (b 1) (b 2) (b 3) (b 4) (b 5)) 6 := wb_cong fun j hj => by
  rcases (show j = 0 ∨ j = 1 ∨ j = 2 ∨ j = 3 ∨ j = 4 ∨ j = 5 by omega) with rfl | rfl | rfl | rfl | rfl | rfl <;> rfl
theorem wtB_wb (f : Nat → Int32) : ∀ i, wtB f i = wb (outB f) i
  | 0 => rfl
  | i + 1 => by
    rw [wtB, wb, wtB_wb f i]
    by_cases h : f i = (-1)
    · rw [if_pos h, if_neg (by simp [outB, h])]
    · rw [if_neg h, if_pos (by simp [outB, h])]
theorem wb_bit6 : ∀ (b0 b1 b2 b3 b4 b5 : Bool) (h : Fin 6), decide ((wb (b6 b0 b1 b2 b3 b4 b5) 6 >>> (nI h.val &&& 31)) &&& nI 1 = nI 1) = b6 b0 b1 b2 b3 b4 b5 h.val := by decide +kernel
theorem wb_bit (b : Nat → Bool) {h : Nat} (hh : h < 6) : decide ((wb b 6 >>> (nI h &&& 31)) &&& nI 1 = nI 1) = b h := by
  rw [wb_6, wb_bit6 _ _ _ _ _ _ ⟨h, hh⟩]
  rcases (show h = 0 ∨ h = 1 ∨ h = 2 ∨ h = 3 ∨ h = 4 ∨ h = 5 by omega) with rfl | rfl | rfl | rfl | rfl | rfl <;> rfl
/-- those of the first i that were seen are so -/
def asL (T : gTown) (B : Nat → Nat → Int32) : Nat → Bool
  | 0 => true
  | i + 1 => asL T B i && decide (bI (seenB T (B 3) (B 6 i) (B 7 i)) = B 8 i)
theorem asL_mono {T : gTown} {B : Nat → Nat → Int32} {i : Nat} (h : asL T B i = false) : ∀ {k : Nat}, i ≤ k → asL T B k = false
  | 0, hk => by rw [show i = 0 by omega] at h; exact h
  | k + 1, hk => by
    rcases Nat.lt_or_ge i (k + 1) with q | q
    · rw [asL, asL_mono h (show i ≤ k by omega)]; rfl
    · rw [show k + 1 = i by omega]; exact h
theorem seenB_nI {T : gTown} {f : Nat → Int32} {j : Nat} {m : Int32} (hn : tN T ≤ 6) (hj : j < tN T) : seenB T f (nI j) m = (!decide (f j = (-1)) && !decide (m < f j)) := by
  unfold seenB
  rw [hsB_t hn hj, nI_clamp (by omega)]
  rfl
/-- the next house by a law: it is one of the town's, and shut out -/
theorem nxB_in {T : gTown} {lw : Nat} {f : Nat → Int32} {kp : Int32} (hn : tN T ≤ 6) (h : ¬ nxB T lw f kp = (-1)) : ∃ j, j < tN T ∧ nxB T lw f kp = nI j ∧ outB f j = true := by
  rcases nxL_in (mayB (mwB T 6) (wtB f 6)) (rkF T lw f kp) (tN T) with q | ⟨j, h1, h2, h3⟩
  · exact absurd q h
  · refine ⟨j, h1, h2, ?_⟩
    have e1 : decide ((wtB f 6 >>> (nI j &&& 31)) &&& nI 1 = nI 1) = outB f j := by rw [wtB_wb, wb_bit _ (by omega)]
    rw [← e1]
    unfold mayB at h3
    by_cases c : wtB f 6 &&& mwB T 6 = 0
    · rw [if_pos c] at h3; exact decide_eq_true h3
    · rw [if_neg c] at h3
      refine decide_eq_true ?_
      have e2 : ∀ x y : Int32, ((x &&& y) >>> (nI j &&& 31)) &&& nI 1 = nI 1 → (x >>> (nI j &&& 31)) &&& nI 1 = nI 1 := by
        intro x y hxy
        have e3 : (x &&& y) >>> (nI j &&& 31) = (x >>> (nI j &&& 31)) &&& (y >>> (nI j &&& 31)) := Int32.toBitVec_inj.mp (BitVec.sshiftRight_and_distrib x.toBitVec y.toBitVec _)
        rw [e3] at hxy
        generalize x >>> (nI j &&& 31) = a at hxy ⊢
        generalize y >>> (nI j &&& 31) = b at hxy
        have e4 : a &&& nI 1 = a &&& ((a &&& b) &&& nI 1) := by rw [hxy]
        rw [e4, ← Int32.and_assoc, ← Int32.and_assoc, Int32.and_self]
        exact hxy
      exact e2 _ _ h3
def okZ (f : Nat → Int32) : Prop := ∀ j, j < 6 → vp_nar .boolean (f j) = f j
