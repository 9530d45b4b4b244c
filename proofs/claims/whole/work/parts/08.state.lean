/-! what the cells of the class and of the reference are, in blocks; what the houses say -/
def kci : Nat → Nat
  | 0 => 0
  | 1 => 4
  | 2 => 1
  | 3 => 9
  | _ => 3
def hE (k : Nat) (p l n : Int32) : va_E := .inr (kci k, [.int p, .int l, .int n])
abbrev rfA (f : Nat → Option Nat) : (Nat → Int32) ⊕ (Nat → Int64) ⊕ (Nat → UInt32) ⊕ (Nat → UInt64) ⊕ (Nat → Option Nat) := .inr (.inr (.inr (.inr f)))
/-- a town: how many houses, their places in the heap, kinds, places, latest, people -/
abbrev gTown : Type := Nat × (Nat → Nat) × (Nat → Nat) × (Nat → Int32) × (Nat → Int32) × (Nat → Int32)
def tN (T : gTown) : Nat := T.1
def tA (T : gTown) : Nat → Nat := T.2.1
def tK (T : gTown) : Nat → Nat := T.2.2.1
def tP (T : gTown) : Nat → Int32 := T.2.2.2.1
def tL (T : gTown) : Nat → Int32 := T.2.2.2.2.1
def tE (T : gTown) : Nat → Int32 := T.2.2.2.2.2
def tR (T : gTown) : Nat → Option Nat := fun i => if i < tN T then some (tA T i) else none
/-- the midwives' bits of the first i houses -/
def mwB (T : gTown) : Nat → Int32
  | 0 => nI 0
  | i + 1 => if i < tN T ∧ tK T i = 1 then mwB T i ||| (nI 1 <<< (nI i &&& 31)) else mwB T i
def kC (q : Nat) (p m u : Int32) : va_W := [(q, .inr (2, [.int p, .int m, .int u]))]
def nC (E : gEnv) (a : Nat → Nat) (t : Nat) (sn : Int32) (B : Nat → Nat → Int32) : va_W := [(a 0, .inr (5, [.ref t, .ref (a 1), .ref (a 2), .ref (a 3), .ref (a 4), .ref (a 5), .ref (a 6), .ref (a 7), .ref (a 8), .int sn])), (a 2, .inl (E.2.1 0, 6, .inl (B 2))), (a 3, .inl (E.2.1 0, 6, .inl (B 3))), (a 4, .inl (E.2.1 0, 6, .inl (B 4))), (a 5, .inl (E.2.1 0, 6, .inl (B 5))), (a 6, .inl (E.2.1 0, 6, .inl (B 6))), (a 7, .inl (E.2.1 0, 6, .inl (B 7))), (a 8, .inl (E.2.1 1, 6, .inl (B 8)))]
def tC (E : gEnv) (t : Nat → Nat) (T : gTown) : va_W := [(t 0, .inr (8, [.ref (t 1), .ref (t 2), .int (nI (tN T)), .int (mwB T 6)])), (t 1, .inl (E.2.1 2, 6, rfA (tR T))), (t 2, .inr (0, [.int (nI 0), .int (nI 1), .int (nI 1)]))]
def pC (E : gEnv) (q : Nat → Nat) (n : Nat) (f : Nat → Int32) : va_W := [(q 0, .inr (6, [.ref (q 1), .int (nI n)])), (q 1, .inl (E.2.1 0, 30, .inl f))]
def rC (E : gEnv) (r : Nat → Nat) (t : Nat) (kd : Nat → Nat) (g O BO : Nat → Int32) : va_W := [(r 0, .inr (7, [.ref t, .ref (r 1), .ref (r 2), .ref (r 3), .int (g 4), .int (g 5), .int (g 6), .int (g 7), .int (g 8)])), (r 1, .inl (E.2.1 3, 7, rfA (fun i => if i < 7 then some (kd i) else none))), (r 2, .inl (E.2.1 0, 6, .inl O)), (r 3, .inl (E.2.1 0, 6, .inl BO))]
def xC (x : Nat → Nat) (g : Nat → Int32) : va_W := [(x 0, .inr (10, [.ref (x 1), .ref (x 2), .ref (x 3), .ref (x 4), .ref (x 5), .ref (x 6), .int (g 6), .int (g 7), .int (g 8), .int (g 9), .int (g 10)]))]
def mC (E : gEnv) (a : Nat → Nat) (f : Nat → Int32) (hh : Int64) (A : Nat → Nat → Int32) : va_W := [(a 32, .inr (11, [.ref (a 0), .int (f 1), .int (f 2), .int (f 3), .int (f 4), .int (f 5), .int (f 6), .ref (a 7), .int (f 8), .int (f 9), .int (f 10), .ref (a 11), .ref (a 12), .ref (a 13), .ref (a 14), .int (f 15), .int (f 16), .int (f 17), .int (f 18), .int (f 19), .int (f 20), .ref (a 21), .int (f 22), .ref (a 23), .int (f 24), .int (f 25), .int (f 26), .int (f 27), .int (f 28), .ref (a 29), .ref (a 30), .long hh])), (a 0, .inl (E.2.1 0, 30, .inl (A 0))), (a 7, .inl (E.2.1 0, 48, .inl (A 7))), (a 11, .inl (E.2.1 0, 6, .inl (A 11))), (a 12, .inl (E.2.1 0, 6, .inl (A 12))), (a 13, .inl (E.2.1 0, 6, .inl (A 13))), (a 14, .inl (E.2.1 0, 6, .inl (A 14))), (a 21, .inl (E.2.1 0, 18, .inl (A 21))), (a 23, .inl (E.2.1 0, 48, .inl (A 23))), (a 29, .inl (E.2.1 0, 48, .inl (A 29))), (a 30, .inl (E.2.1 0, 18, .inl (A 30)))]
def isIn (b ws : va_W) : Prop := ∀ q ∈ b, q ∈ ws
theorem isIn.r {b ws : va_W} (x : va_W) (h : isIn b ws) : isIn b (x ++ ws) := fun q hq => List.mem_append_right _ (h q hq)
theorem isIn.l (b x : va_W) : isIn b (b ++ x) := fun _ hq => List.mem_append_left _ hq
def isHs (T : gTown) (ws : va_W) : Prop := ∀ i, i < tN T → tK T i < 5 ∧ (tA T i, hE (tK T i) (tP T i) (tL T i) (tE T i)) ∈ ws
theorem isHs.r {T : gTown} {ws : va_W} (x : va_W) (h : isHs T ws) : isHs T (x ++ ws) := fun i hi => ⟨(h i hi).1, List.mem_append_right _ (h i hi).2⟩
/-! what the small methods answer -/
def mx (x y : Int32) : Int32 := if x < y then y else x
def mn (x y : Int32) : Int32 := if y < x then y else x
def ab (x : Int32) : Int32 := if 0 ≤ x then x else 0 - x
def opn : Nat → Int32
  | 3 => nI 0
  | 4 => nI 0
  | _ => nI 1
def kpu (k : Nat) (m : Int32) : Int32 := match k with
  | 4 => m + nI 5
  | _ => nI 0
def ltA (k : Nat) (l n m : Int32) : Int32 := match k with
  | 2 => nI 0
  | _ => mx (nI 0) (m - nI 4 * l) * n
def slp (k : Nat) (n : Int32) : Int32 := match k with
  | 2 => nI 0
  | _ => n
/-- the minute at which they are in -/
def brg (k : Nat) (hp p m u : Int32) : Int32 := mx m u + ab (p - hp) + opn k
/-- the bits of those of the first i that are shut out -/
def wtB (f : Nat → Int32) : Nat → Int32
  | 0 => nI 0
  | i + 1 => if f i = (-1) then wtB f i else wtB f i ||| (nI 1 <<< (nI i &&& 31))
def sumB (f : Nat → Int32) : Nat → Int32
  | 0 => nI 0
  | i + 1 => sumB f i + f i
def mayB (mw w : Int32) : Int32 := if w &&& mw = 0 then w else w &&& mw
def bitB (w : Int32) (i : Nat) : Bool := decide ((w >>> (nI i &&& 31)) &&& nI 1 = nI 1)
