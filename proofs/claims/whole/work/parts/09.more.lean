/-! arrays: filling, copying, and what lies behind an array's end -/
def filc (c : Int32) (f : Nat → Int32) (i : Nat) : Nat → Int32 := fun j => if j < i then c else f j
theorem filc_0 (c : Int32) (f : Nat → Int32) : filc c f 0 = f := funext fun j => by simp [filc]
theorem filc_s (c : Int32) (f : Nat → Int32) (i : Nat) : upd (filc c f i) i c = filc c f (i + 1) := funext fun j => by
  simp only [upd, filc]
  by_cases h : j = i
  · subst h; simp
  · by_cases h2 : j < i
    · rw [if_neg h, if_pos h2, if_pos (by omega)]
    · rw [if_neg h, if_neg h2, if_neg (by omega)]
def fil (g f : Nat → Int32) (i : Nat) : Nat → Int32 := fun j => if j < i then g j else f j
theorem fil_0 (g f : Nat → Int32) : fil g f 0 = f := funext fun j => by simp [fil]
theorem fil_s (g f : Nat → Int32) (i : Nat) : upd (fil g f i) i (g i) = fil g f (i + 1) := funext fun j => by
  simp only [upd, fil]
  by_cases h : j = i
  · subst h; simp
  · by_cases h2 : j < i
    · rw [if_neg h, if_pos h2, if_pos (by omega)]
    · rw [if_neg h, if_neg h2, if_neg (by omega)]
theorem arr_cong {cA : ClassId} {N : Nat} {f g : Nat → Int32} (h : ∀ j, j < N → f j = g j) : vp_cell cA (N, .inl f) = vp_cell cA (N, .inl g) := by
  show arrV cA N (fun j => .int (f j)) = arrV cA N (fun j => .int (g j))
  unfold arrV
  have e : (fun j : Fin N => Value.int (f j.val)) = fun j : Fin N => Value.int (g j.val) := funext fun j => by rw [h j.val j.isLt]
  rw [e]
theorem at_cong {D : va_G} {cl : List vw_C} {a : Nat} {cA : ClassId} {N : Nat} {f g : Nat → Int32} {H : Heap} (h : ∀ j, j < N → f j = g j) (hP : va_at D cl (a, .inl (cA, N, .inl f)) H) : va_at D cl (a, .inl (cA, N, .inl g)) H := by
  have e : H[a]? = some (vp_cell cA (N, .inl f)) := hP
  show H[a]? = some (vp_cell cA (N, .inl g))
  rw [← arr_cong h]
  exact e
theorem q_cong {p : Program} {l : Launch} {e : Env} {R : Room} {s : State} {m : MethodId} {args : Array Value} {below : List Frame} {meth : Method} {c : Code} {Q : State → Prop} {E : gEnv} {A : Nat → Prop} {nL pc : Nat} {lv : List (Nat × Value)} {st : List Value} {ws ws' : va_W} {k n : Nat} (hP' : ∀ H, va_P E.1 vwCl ws H → va_P E.1 vwCl ws' H) (hA : ws.map Prod.fst = ws'.map Prod.fst) (kk : gW p l e R s m args below meth c E A nL Q pc lv st ws' k n) : gW p l e R s m args below meth c E A nL Q pc lv st ws k n := fun H locs ls hP hD hS hl => by
  refine kk H locs ls (hP' H hP) (va_D.ofnodup (hA ▸ hD.nodup) fun q hq => ?_) hS hl
  have h1 : q.1 ∈ ws.map Prod.fst := by rw [hA]; exact List.mem_map_of_mem hq
  obtain ⟨r, hr, e⟩ := List.mem_map.mp h1
  rw [← e]
  exact hD.mem hr
theorem nC_cong {D : va_G} {cl : List vw_C} {E : gEnv} {a : Nat → Nat} {t : Nat} {sn : Int32} {B B' : Nat → Nat → Int32} {tl : va_W} {H : Heap} (h : ∀ i, 2 ≤ i → i ≤ 8 → ∀ j, j < 6 → B i j = B' i j) (hP : va_P D cl (nC E a t sn B ++ tl) H) : va_P D cl (nC E a t sn B' ++ tl) H := va_P.ofmem fun q hq => by
  have K : ∀ i, (nC E a t sn B)[i]? = some q → va_at D cl q H := fun i hi => hP.mem (List.mem_append_left _ (List.mem_of_getElem? hi))
  have L : ∀ i x, (nC E a t sn B)[i]? = some x → va_at D cl x H := fun i x hi => hP.mem (List.mem_append_left _ (List.mem_of_getElem? hi))
  rcases List.mem_append.mp hq with h1 | h1
  · unfold nC at h1
    simp only [List.mem_cons, List.not_mem_nil, or_false] at h1
    rcases h1 with rfl | rfl | rfl | rfl | rfl | rfl | rfl | rfl
    · exact K 0 rfl
    · exact at_cong (h 2 (by decide) (by decide)) (L 1 _ rfl)
    · exact at_cong (h 3 (by decide) (by decide)) (L 2 _ rfl)
    · exact at_cong (h 4 (by decide) (by decide)) (L 3 _ rfl)
    · exact at_cong (h 5 (by decide) (by decide)) (L 4 _ rfl)
    · exact at_cong (h 6 (by decide) (by decide)) (L 5 _ rfl)
    · exact at_cong (h 7 (by decide) (by decide)) (L 6 _ rfl)
    · exact at_cong (h 8 (by decide) (by decide)) (L 7 _ rfl)
  · exact hP.mem (List.mem_append_right _ h1)
theorem q_nB {p : Program} {l : Launch} {e : Env} {R : Room} {s : State} {m : MethodId} {args : Array Value} {below : List Frame} {meth : Method} {c : Code} {Q : State → Prop} {E : gEnv} {A : Nat → Prop} {nL pc : Nat} {lv : List (Nat × Value)} {st : List Value} {ws : va_W} {k n : Nat} {a : Nat → Nat} {t : Nat} {sn : Int32} {B : Nat → Nat → Int32} (B' : Nat → Nat → Int32) (h : ∀ i, 2 ≤ i → i ≤ 8 → ∀ j, j < 6 → B i j = B' i j) (kk : gW p l e R s m args below meth c E A nL Q pc lv st (nC E a t sn B' ++ ws) k n) : gW p l e R s m args below meth c E A nL Q pc lv st (nC E a t sn B ++ ws) k n := q_cong (fun _ hP => nC_cong h hP) rfl kk
def mLen : Nat → Nat
  | 0 => 30
  | 7 => 48
  | 21 => 18
  | 23 => 48
  | 29 => 48
  | 30 => 18
  | _ => 6
theorem mC_cong {D : va_G} {cl : List vw_C} {E : gEnv} {a : Nat → Nat} {f : Nat → Int32} {hh : Int64} {B B' : Nat → Nat → Int32} {tl : va_W} {H : Heap} (h : ∀ i, ∀ j, j < mLen i → B i j = B' i j) (hP : va_P D cl (mC E a f hh B ++ tl) H) : va_P D cl (mC E a f hh B' ++ tl) H := va_P.ofmem fun q hq => by
  have L : ∀ i x, (mC E a f hh B)[i]? = some x → va_at D cl x H := fun i x hi => hP.mem (List.mem_append_left _ (List.mem_of_getElem? hi))
  rcases List.mem_append.mp hq with h1 | h1
  · unfold mC at h1
    simp only [List.mem_cons, List.not_mem_nil, or_false] at h1
    rcases h1 with rfl | rfl | rfl | rfl | rfl | rfl | rfl | rfl | rfl | rfl | rfl
    · exact L 0 _ rfl
    · exact at_cong (h 0) (L 1 _ rfl)
    · exact at_cong (h 7) (L 2 _ rfl)
    · exact at_cong (h 11) (L 3 _ rfl)
    · exact at_cong (h 12) (L 4 _ rfl)
    · exact at_cong (h 13) (L 5 _ rfl)
    · exact at_cong (h 14) (L 6 _ rfl)
    · exact at_cong (h 21) (L 7 _ rfl)
    · exact at_cong (h 23) (L 8 _ rfl)
    · exact at_cong (h 29) (L 9 _ rfl)
    · exact at_cong (h 30) (L 10 _ rfl)
  · exact hP.mem (List.mem_append_right _ h1)
theorem q_mB {p : Program} {l : Launch} {e : Env} {R : Room} {s : State} {m : MethodId} {args : Array Value} {below : List Frame} {meth : Method} {c : Code} {Q : State → Prop} {E : gEnv} {A : Nat → Prop} {nL pc : Nat} {lv : List (Nat × Value)} {st : List Value} {ws : va_W} {k n : Nat} {a : Nat → Nat} {f : Nat → Int32} {hh : Int64} {B : Nat → Nat → Int32} (B' : Nat → Nat → Int32) (h : ∀ i, ∀ j, j < mLen i → B i j = B' i j) (kk : gW p l e R s m args below meth c E A nL Q pc lv st (mC E a f hh B' ++ ws) k n) : gW p l e R s m args below meth c E A nL Q pc lv st (mC E a f hh B ++ ws) k n := q_cong (fun _ hP => mC_cong h hP) rfl kk
/-! small facts on numbers -/
def hsB (n : Nat) (x : Int32) : Bool := !decide (x < 0) && !decide (nI n ≤ x)
theorem hsB_nI {n h : Nat} (hn : n ≤ 6) (hh : h < 2 ^ 31) : hsB n (nI h) = decide (h < n) := by
  unfold hsB
  rw [decide_eq_false (nI_pos hh)]
  by_cases q : h < n
  · rw [decide_eq_false (nI_ge q (by omega)), decide_eq_true q]; rfl
  · rw [decide_eq_true (nI_le (by omega) hh), decide_eq_false q]; rfl
theorem hsB_t {n h : Nat} (hn : n ≤ 6) (hh : h < n) : hsB n (nI h) = true := by rw [hsB_nI hn (by omega), decide_eq_true hh]
theorem hsB_of {n : Nat} {x : Int32} (hn : n ≤ 6) (h : hsB n x = true) : ∃ j : Nat, j < n ∧ x = nI j := by
  unfold hsB at h
  rw [Bool.and_eq_true] at h
  have h1 : ¬ x < 0 := by simpa using h.1
  have h2 : ¬ nI n ≤ x := by simpa using h.2
  rcases pk_ix x (n := n) (by omega) with q | q | q
  · exact absurd q h1
  · exact absurd q h2
  · exact q
def outB (f : Nat → Int32) (h : Nat) : Bool := !decide (f h = (-1))
theorem outB_t {f : Nat → Int32} {h : Nat} (q : outB f h = true) : ¬ f h = (-1) := by simpa [outB] using q
theorem outB_f {f : Nat → Int32} {h : Nat} (q : outB f h = false) : f h = (-1) := by simpa [outB] using q
