/-! the class's object: its state, its world, what its methods do -/
/-- a night: how much is seen, its rows, the key -/
abbrev gNi : Type := Int32 × (Nat → Nat → Int32) × Int32 × Int32 × Int32
abbrev gRd : Type := (Nat → Int32) × (Nat → Int32) × (Nat → Int32) × (Nat → Int32) × (Nat → Int32) × (Nat → Int32)
/-- town, letters, page, the object's numbers, now, kept, trial, rounds -/
abbrev gSt : Type := gTown × Nat × (Nat → Int32) × (Nat → Int32) × gNi × gNi × gNi × gRd
/-- addresses: the object, page, town, now, kept, trial, rounds, its keys -/
abbrev gAd : Type := Nat × (Nat → Nat) × (Nat → Nat) × (Nat → Nat) × (Nat → Nat) × (Nat → Nat) × (Nat → Nat) × (Nat → Nat)
def xW (E : gEnv) (D : gAd) (S : gSt) (tl : va_W) : va_W := oC D.1 (D.2.1 0) (D.2.2.1 0) (D.2.2.2.1 0) (D.2.2.2.2.1 0) (D.2.2.2.2.2.1 0) (D.2.2.2.2.2.2.1 0) S.2.2.2.1 ++ (pC E D.2.1 S.2.1 S.2.2.1 ++ (tC E D.2.2.1 S.1 ++ (nC E D.2.2.2.1 (D.2.2.1 0) S.2.2.2.2.1.1 S.2.2.2.2.1.2.1 ++ (kC (D.2.2.2.1 1) S.2.2.2.2.1.2.2.1 S.2.2.2.2.1.2.2.2.1 S.2.2.2.2.1.2.2.2.2 ++ (nC E D.2.2.2.2.1 (D.2.2.1 0) S.2.2.2.2.2.1.1 S.2.2.2.2.2.1.2.1 ++ (kC (D.2.2.2.2.1 1) S.2.2.2.2.2.1.2.2.1 S.2.2.2.2.2.1.2.2.2.1 S.2.2.2.2.2.1.2.2.2.2 ++ (nC E D.2.2.2.2.2.1 (D.2.2.1 0) S.2.2.2.2.2.2.1.1 S.2.2.2.2.2.2.1.2.1 ++ (kC (D.2.2.2.2.2.1 1) S.2.2.2.2.2.2.1.2.2.1 S.2.2.2.2.2.2.1.2.2.2.1 S.2.2.2.2.2.2.1.2.2.2.2 ++ (rC E D.2.2.2.2.2.2.1 (D.2.2.1 0) D.2.2.2.2.2.2.2 S.2.2.2.2.2.2.2.1 S.2.2.2.2.2.2.2.2.1 S.2.2.2.2.2.2.2.2.2.1 ++ (ksC D.2.2.2.2.2.2.2 S.2.2.2.2.2.2.2.2.2.2.1 S.2.2.2.2.2.2.2.2.2.2.2.1 S.2.2.2.2.2.2.2.2.2.2.2.2 ++ tl))))))))))
theorem inI_t {x lo hi : Int32} (h1 : ¬ x < lo) (h2 : ¬ hi < x) : inI x lo hi = true := by unfold inI; rw [decide_eq_false h1, decide_eq_false h2]; rfl
theorem inI_lo {x lo hi : Int32} (h1 : x < lo) : inI x lo hi = false := by unfold inI; rw [decide_eq_true h1]; rfl
theorem inI_hi {x lo hi : Int32} (h2 : hi < x) : inI x lo hi = false := by unfold inI; rw [decide_eq_true h2]; cases decide (x < lo) <;> rfl
def tdF (T : gTown) (B : Nat → Nat → Int32) (h : Nat) : Nat → Int32
  | 0 => nI (tK T h)
  | 1 => tP T h
  | 2 => tL T h
  | 3 => tE T h
  | 4 => B 2 h
  | 5 => B 3 h
  | 6 => B 4 h
  | _ => B 5 h
def isS (k j : Nat) : Bool := decide (j = 0 ∨ j = k ∨ (j = 3 ∧ k = 4))
def byC (T : gTown) (N : gNt) (lw : Nat) : Nat → Int32
  | 0 => sumB ((laN T lw 6 N).1 4) 6 - sumB (N.1 4) 6
  | 1 => (laN T lw 6 N).2.2.1
  | _ => (laN T lw 6 N).2.1
def bsC (a : gAc) (j : Nat) : Int32 := if j = 0 then a.1 else if j = 1 then a.2.1 else if a.2.2.1 ≤ nI (j - 10) then (-1) else a.2.2.2 (j - 10)
def beL (T : gTown) (b : Nat → Bool) (p m u : Int32) : Int32 := (dfC T true true 7 b p m u (nI 0) 0 zF (ac0 zF)).1
theorem beL_of {T : gTown} {b : Nat → Bool} {p m u : Int32} {O BO : Nat → Int32} {x y z : Int32} {B : Nat → Int32} (h : ((x, y, z, B) : gAc) = dfC T true true 7 b p m u (nI 0) 0 O (ac0 BO)) : x = beL T b p m u := by
  have e : x = (dfC T true true 7 b p m u (nI 0) 0 O (ac0 BO)).1 := congrArg (fun q : gAc => q.1) h
  rw [e]
  exact (dfC_ind (acc := ac0 BO) (acc' := ac0 zF) ⟨rfl, rfl⟩).1
/-- where to hang, by the class: the hook, the least -/
def hgC (T : gTown) (b : Nat → Bool) (m u : Int32) : Nat → Int32 × Int32
  | 0 => (nI 0, nI 2147483647)
  | p + 1 => if beL T b (nI p) m u < (hgC T b m u p).2 then (nI p, beL T b (nI p) m u) else hgC T b m u p
def gsB (T : gTown) (B : Nat → Nat → Int32) (sk c : Nat) : Bool := asL T (laN T (c % 3) 6 (va_up B 3 (fun _ => (-1)), nI (c / 3), nI 0, nI 0)).1 sk
/-- guesses, by the class: how many, the least -/
def gsC (T : gTown) (B : Nat → Nat → Int32) (sk : Nat) : Nat → Int32 × Int32
  | 0 => (nI 0, (-1))
  | c + 1 => if gsB T B sk c then ((gsC T B sk c).1 + nI 1, if (gsC T B sk c).2 = (-1) then nI c else (gsC T B sk c).2) else gsC T B sk c
/-- a drawn night, by the class: who is shut out, the seed -/
def ntL (f : Nat → Int32) (sd : Int32) : Nat → (Nat → Int32) × Int32
  | 0 => (f, sd)
  | i + 1 => (upd (ntL f sd i).1 i (if drN (ntL f sd i).2 2 = 1 then nI 0 else (-1)), sdN (ntL f sd i).2)
def ntN (T : gTown) (z : gNt × Int32) : gNt × Int32 := (laN T (drN (ntL (z.1.1 2) z.2 (tN T)).2 3) 6 (va_up z.1.1 2 (ntL (z.1.1 2) z.2 (tN T)).1, z.1.2.1, nI 0, nI 0), sdN (ntL (z.1.1 2) z.2 (tN T)).2)
def ntK (T : gTown) (z : gNt × Int32) : Nat → gNt × Int32
  | 0 => z
  | k + 1 => ntN T (ntK T z k)
def ntU (z : gNt × Int32) : Nat → Int32
  | 0 => sumB (z.1.1 4) 6
  | 1 => z.1.2.1
  | _ => z.2
def cnC (T : gTown) (g : Nat → Int32) (n : Nat) (sn : Int32) (B : Nat → Nat → Int32) (kp km ku : Int32) : Nat → Int32
  | 0 => nI (tN T)
  | 1 => nI (cnt (outB (B 2)) 6)
  | 2 => kp
  | 3 => km
  | 4 => ku
  | 5 => sumB (B 4) 6
  | 6 => sumB (B 5) 6
  | 7 => sn
  | 8 => nI n
  | 9 => g 7
  | _ => g 8
theorem law_lt {y : Int32} (h : ¬ nI 3 ≤ y) : ¬ nI 2 < y := by
  intro z
  apply h
  rw [Int32.le_iff_toInt_le]
  rw [Int32.lt_iff_toInt_lt] at z
  rw [nI_toInt (by decide)] at z ⊢
  omega
theorem law_ge {y : Int32} (h : nI 3 ≤ y) : nI 2 < y := by
  rw [Int32.lt_iff_toInt_lt]
  rw [Int32.le_iff_toInt_le] at h
  rw [nI_toInt (by decide)] at h ⊢
  omega
def tbL (B B2 : Nat → Nat → Int32) (kp2 km2 : Int32) : Nat → Int32
  | 0 => sumB (B2 4) 6 - sumB (B 4) 6
  | 1 => km2
  | _ => kp2
theorem nI_sub10 (i : Nat) : nI (10 + i) - nI 10 = nI i := by rw [show nI (10 + i) = nI 10 + nI i from (nI_add 10 i).symm, Int32.add_comm, Int32.add_sub_cancel]
theorem bsC_10 (a : gAc) (i : Nat) : bsC a (10 + i) = if a.2.2.1 ≤ nI i then (-1) else a.2.2.2 i := by
  unfold bsC
  rw [if_neg (by omega), if_neg (by omega), show 10 + i - 10 = i by omega]
theorem sw_10 {i : Nat} (hi : i < 6) : Op.lookupswitch.offset [((0 : Int), (27 : Int)), (1, 35)] 43 (nI (10 + i)).toInt = 43 := by
  rcases (show i = 0 ∨ i = 1 ∨ i = 2 ∨ i = 3 ∨ i = 4 ∨ i = 5 by omega) with rfl | rfl | rfl | rfl | rfl | rfl <;> decide
set_option maxHeartbeats 2000000 in
set_option maxRecDepth 100000 in
theorem c_X10_hasTown (l : Launch) (E : gEnv) (x : Nat) (q t a k u r kd : Nat → Nat) (T : gTown) (g : Nat → Int32) (n : Nat) (pf : Nat → Int32) (sn : Int32) (B : Nat → Nat → Int32) (kp km ku : Int32) (sn1 : Int32) (B1 : Nat → Nat → Int32) (kp1 km1 ku1 : Int32) (sn2 : Int32) (B2 : Nat → Nat → Int32) (kp2 km2 ku2 : Int32) (rg O BO P M U : Nat → Int32) (tl : va_W) (hH : isHs T tl) (hn : tN T ≤ 6) (hq : n ≤ 30) : Cn l E yX10_hasTown wsX10_hasTown (rmL 0 0 0) [.ref x] (oC x (q 0) (t 0) (a 0) (k 0) (u 0) (r 0) g ++ (pC E q n pf ++ (tC E t T ++ (nC E a (t 0) sn B ++ (kC (a 1) kp km ku ++ (nC E k (t 0) sn1 B1 ++ (kC (k 1) kp1 km1 ku1 ++ (nC E u (t 0) sn2 B2 ++ (kC (u 1) kp2 km2 ku2 ++ (rC E r (t 0) kd rg O BO ++ (ksC kd P M U ++ tl))))))))))) 0 0 (fun v w => v = some (.int (bI (decide (¬ tN T = 0)))) ∧ w = oC x (q 0) (t 0) (a 0) (k 0) (u 0) (r 0) g ++ (pC E q n pf ++ (tC E t T ++ (nC E a (t 0) sn B ++ (kC (a 1) kp km ku ++ (nC E k (t 0) sn1 B1 ++ (kC (k 1) kp1 km1 ku1 ++ (nC E u (t 0) sn2 B2 ++ (kC (u 1) kp2 km2 ku2 ++ (rC E r (t 0) kd rg O BO ++ (ksC kd P M U ++ tl))))))))))) := by
  refine Cn.of (own := RX10) (cc := cX10_hasTown) (maxL := 1) (ret := (some .boolean)) (lv := [(0, .ref x)]) (by decide) rfl rfl (Nat.le_of_ble_eq_true rfl) rfl ?_
  intro p_ e_ s_ m_ args_ below_ meth_ c_ A_ P_ hp_ F hr_ hnm_
  have hf21_10 : Cond.fieldLink RX10 21 "KeyOnStreet" (TX10 1).2.1 (TX10 1).2.2.1 ∈ wsX10_hasTown := by decide +kernel
  have hi10 : ∀ w ∈ u_ws RX10 TX10 11, w ∈ wsX10_hasTown := by decide +kernel
  have hf77_8 : Cond.fieldLink RX10 77 "KeyOnStreet$Town" (TX8 2).2.1 (TX8 2).2.2.1 ∈ wsX10_hasTown := by decide +kernel
  have hi8 : ∀ w ∈ u_ws RX8 TX8 4, w ∈ wsX10_hasTown := by decide +kernel
  refine q_aload_n F 0 dX10_hasTown_0 rfl ?_
  refine q_get F (ci := 10) (j := 1) (v := .ref (t 0)) (List.mem_append_left _ (List.mem_of_getElem? (i := 0) rfl)) rfl hi10 (by decide) hf21_10 rfl rfl dX10_hasTown_1 ?_
  refine q_get F (ci := 8) (j := 2) (v := .int (nI (tN T))) (List.mem_append_right _ (List.mem_append_right _ (List.mem_append_left _ (List.mem_of_getElem? (i := 0) rfl)))) rfl hi8 (by decide) hf77_8 rfl rfl dX10_hasTown_4 ?_
  refine q_if_le F (tgt := 14) dX10_hasTown_7 (by decide) (fun h_7 => ?_) (fun h_7 => ?_)
  · skip
    have hn_7 : (tN T) ≤ 0 := nf_le_t0 (by omega) h_7
    refine q_iconst F dX10_hasTown_14 (v := nI 0) (by decide) ?_
    refine q_perm pf10 ?_
    refine q_perm pf10 ?_
    refine q_perm pf10 ?_
    refine q_perm pf10 ?_
    refine q_perm pf10 ?_
    refine q_perm pf10 ?_
    refine q_perm pf10 ?_
    refine q_perm pf10 ?_
    refine q_perm pf10 ?_
    refine q_perm pf10 ?_
    refine q_perm pf10 ?_
    refine q_zret F hr_ (by decide) dX10_hasTown_15 (hp_ _ _ ⟨congrArg (fun z => some (Value.int z)) ?_, ?_⟩)
    · rw [decide_eq_false (by omega)]; rfl
    · rfl
  · skip
    have hn_7 : (tN T) > 0 := nf_le_f0 (by omega) h_7
    refine q_iconst F dX10_hasTown_10 (v := nI 1) (by decide) ?_
    refine q_goto F (tgt := 15) dX10_hasTown_11 (by decide) ?_
    refine q_perm pf10 ?_
    refine q_perm pf10 ?_
    refine q_perm pf10 ?_
    refine q_perm pf10 ?_
    refine q_perm pf10 ?_
    refine q_perm pf10 ?_
    refine q_perm pf10 ?_
    refine q_perm pf10 ?_
    refine q_perm pf10 ?_
    refine q_perm pf10 ?_
    refine q_perm pf10 ?_
    refine q_zret F hr_ (by decide) dX10_hasTown_15 (hp_ _ _ ⟨congrArg (fun z => some (Value.int z)) ?_, ?_⟩)
    · rw [decide_eq_true (by omega)]; rfl
    · rfl

set_option maxHeartbeats 4000000 in
set_option maxRecDepth 100000 in
theorem c_X10_isLaw (l : Launch) (E : gEnv) (ws : va_W) (y : Int32) : Cn l E yX10_isLaw wsX10_isLaw (rmL 0 0 0) [.int y] (ws) 0 0 (fun v w => v = some (.int (bI (inI y (nI 0) (nI 2)))) ∧ w = ws) := by
  refine Cn.of (own := RX10) (cc := cX10_isLaw) (maxL := 1) (ret := (some .boolean)) (lv := [(0, .int y)]) (by decide) rfl rfl (Nat.le_of_ble_eq_true rfl) rfl ?_
  intro p_ e_ s_ m_ args_ below_ meth_ c_ A_ P_ hp_ F hr_ hnm_
  refine q_iload_n F 0 dX10_isLaw_0 rfl ?_
  refine q_if_lt F (tgt := 13) dX10_isLaw_1 (by decide) (fun h_1 => ?_) (fun h_1 => ?_)
  · skip
    have hz_1 := Int32.not_le.mpr h_1
    refine q_iconst F dX10_isLaw_13 (v := nI 0) (by decide) ?_
    refine q_zret F hr_ (by decide) dX10_isLaw_14 (hp_ _ _ ⟨congrArg (fun z => some (Value.int z)) ?_, ?_⟩)
    · rw [inI_lo (lo := nI 0) h_1]; rfl
    · rfl
  · skip
    have hz_1 := Int32.not_lt.mp h_1
    refine q_iload_n F 0 dX10_isLaw_4 rfl ?_
    refine q_iconst F dX10_isLaw_5 (v := nI 3) (by decide) ?_
    refine q_icmp_ge F (tgt := 13) dX10_isLaw_6 (by decide) (fun h_6 => ?_) (fun h_6 => ?_)
    · skip
      have hz_6 := Int32.not_lt.mpr h_6
      refine q_iconst F dX10_isLaw_13 (v := nI 0) (by decide) ?_
      refine q_zret F hr_ (by decide) dX10_isLaw_14 (hp_ _ _ ⟨congrArg (fun z => some (Value.int z)) ?_, ?_⟩)
      · rw [inI_hi (law_ge h_6)]; rfl
      · rfl
    · skip
      have hz_6 := Int32.not_le.mp h_6
      refine q_iconst F dX10_isLaw_9 (v := nI 1) (by decide) ?_
      refine q_goto F (tgt := 14) dX10_isLaw_10 (by decide) ?_
      refine q_zret F hr_ (by decide) dX10_isLaw_14 (hp_ _ _ ⟨congrArg (fun z => some (Value.int z)) ?_, ?_⟩)
      · rw [inI_t (lo := nI 0) h_1 (law_lt h_6)]; rfl
      · rfl

set_option maxHeartbeats 4000000 in
set_option maxRecDepth 100000 in
theorem c_X10_isSuch_0 (l : Launch) (E : gEnv) (ws : va_W) (b : Nat) (p l0 e : Int32) (hb : (b, (.inr (0, [.int p, .int l0, .int e]) : va_E)) ∈ ws) (j : Nat) (hj : j ≤ 4) : Cn l E yX10_isSuch wsX10_isSuch (rmL 0 0 0) [.ref b, .int (nI j)] (ws) 0 0 (fun v w => v = some (.int (bI (isS 0 j))) ∧ w = ws) := by
  refine Cn.of (own := RX10) (cc := cX10_isSuch) (maxL := 2) (ret := (some .boolean)) (lv := [(0, .ref b), (1, .int (nI j))]) (by decide) rfl rfl (Nat.le_of_ble_eq_true rfl) rfl ?_
  intro p_ e_ s_ m_ args_ below_ meth_ c_ A_ P_ hp_ F hr_ hnm_
  have hcl214 : Cond.classLink RX10 214 RX4 ∈ wsX10_isSuch := by decide +kernel
  have hcl216 : Cond.classLink RX10 216 RX1 ∈ wsX10_isSuch := by decide +kernel
  have hcl218 : Cond.classLink RX10 218 RX9 ∈ wsX10_isSuch := by decide +kernel
  have hcl220 : Cond.classLink RX10 220 RX3 ∈ wsX10_isSuch := by decide +kernel
  refine q_iload_n F 1 dX10_isSuch_0 rfl ?_
  rcases (show j = 0 ∨ j = 1 ∨ j = 2 ∨ j = 3 ∨ j = 4 by omega) with rfl | rfl | rfl | rfl | rfl
  · skip
    refine q_tableOut F (tgt := 52) dX10_isSuch_1 (by decide) (by decide) ?_
    refine q_iconst F dX10_isSuch_52 (v := nI 1) (by decide) ?_
    refine q_zret F hr_ (by decide) dX10_isSuch_53 (hp_ _ _ ⟨congrArg (fun z => some (Value.int z)) ?_, ?_⟩)
    · decide
    · rfl
  · skip
    refine q_tableIn F (off := 31) (tgt := 32) dX10_isSuch_1 (by decide) (by decide) (by decide) (by decide) ?_
    refine q_aload_n F 0 dX10_isSuch_32 rfl ?_
    refine q_instNo F hb rfl hcl214 (by decide) dX10_isSuch_33 ?_
    refine q_toi (nI 0) rfl ?_
    refine q_zret F hr_ (by decide) dX10_isSuch_36 (hp_ _ _ ⟨congrArg (fun z => some (Value.int z)) ?_, ?_⟩)
    · decide
    · rfl
  · skip
    refine q_tableIn F (off := 36) (tgt := 37) dX10_isSuch_1 (by decide) (by decide) (by decide) (by decide) ?_
    refine q_aload_n F 0 dX10_isSuch_37 rfl ?_
    refine q_instNo F hb rfl hcl216 (by decide) dX10_isSuch_38 ?_
    refine q_toi (nI 0) rfl ?_
    refine q_zret F hr_ (by decide) dX10_isSuch_41 (hp_ _ _ ⟨congrArg (fun z => some (Value.int z)) ?_, ?_⟩)
    · decide
    · rfl
  · skip
    refine q_tableIn F (off := 41) (tgt := 42) dX10_isSuch_1 (by decide) (by decide) (by decide) (by decide) ?_
    refine q_aload_n F 0 dX10_isSuch_42 rfl ?_
    refine q_instNo F hb rfl hcl218 (by decide) dX10_isSuch_43 ?_
    refine q_toi (nI 0) rfl ?_
    refine q_zret F hr_ (by decide) dX10_isSuch_46 (hp_ _ _ ⟨congrArg (fun z => some (Value.int z)) ?_, ?_⟩)
    · decide
    · rfl
  · skip
    refine q_tableIn F (off := 46) (tgt := 47) dX10_isSuch_1 (by decide) (by decide) (by decide) (by decide) ?_
    refine q_aload_n F 0 dX10_isSuch_47 rfl ?_
    refine q_instNo F hb rfl hcl220 (by decide) dX10_isSuch_48 ?_
    refine q_toi (nI 0) rfl ?_
    refine q_zret F hr_ (by decide) dX10_isSuch_51 (hp_ _ _ ⟨congrArg (fun z => some (Value.int z)) ?_, ?_⟩)
    · decide
    · rfl

set_option maxHeartbeats 4000000 in
set_option maxRecDepth 100000 in
theorem c_X10_isSuch_4 (l : Launch) (E : gEnv) (ws : va_W) (b : Nat) (p l0 e : Int32) (hb : (b, (.inr (4, [.int p, .int l0, .int e]) : va_E)) ∈ ws) (j : Nat) (hj : j ≤ 4) : Cn l E yX10_isSuch wsX10_isSuch (rmL 0 0 0) [.ref b, .int (nI j)] (ws) 0 0 (fun v w => v = some (.int (bI (isS 1 j))) ∧ w = ws) := by
  refine Cn.of (own := RX10) (cc := cX10_isSuch) (maxL := 2) (ret := (some .boolean)) (lv := [(0, .ref b), (1, .int (nI j))]) (by decide) rfl rfl (Nat.le_of_ble_eq_true rfl) rfl ?_
  intro p_ e_ s_ m_ args_ below_ meth_ c_ A_ P_ hp_ F hr_ hnm_
  have hcl214 : Cond.classLink RX10 214 RX4 ∈ wsX10_isSuch := by decide +kernel
  have hcl216 : Cond.classLink RX10 216 RX1 ∈ wsX10_isSuch := by decide +kernel
  have hcl218 : Cond.classLink RX10 218 RX9 ∈ wsX10_isSuch := by decide +kernel
  have hcl220 : Cond.classLink RX10 220 RX3 ∈ wsX10_isSuch := by decide +kernel
  refine q_iload_n F 1 dX10_isSuch_0 rfl ?_
  rcases (show j = 0 ∨ j = 1 ∨ j = 2 ∨ j = 3 ∨ j = 4 by omega) with rfl | rfl | rfl | rfl | rfl
  · skip
    refine q_tableOut F (tgt := 52) dX10_isSuch_1 (by decide) (by decide) ?_
    refine q_iconst F dX10_isSuch_52 (v := nI 1) (by decide) ?_
    refine q_zret F hr_ (by decide) dX10_isSuch_53 (hp_ _ _ ⟨congrArg (fun z => some (Value.int z)) ?_, ?_⟩)
    · decide
    · rfl
  · skip
    refine q_tableIn F (off := 31) (tgt := 32) dX10_isSuch_1 (by decide) (by decide) (by decide) (by decide) ?_
    refine q_aload_n F 0 dX10_isSuch_32 rfl ?_
    refine q_instS F hb rfl hcl214 dX10_isSuch_33 ?_
    refine q_toi (nI 1) rfl ?_
    refine q_zret F hr_ (by decide) dX10_isSuch_36 (hp_ _ _ ⟨congrArg (fun z => some (Value.int z)) ?_, ?_⟩)
    · decide
    · rfl
  · skip
    refine q_tableIn F (off := 36) (tgt := 37) dX10_isSuch_1 (by decide) (by decide) (by decide) (by decide) ?_
    refine q_aload_n F 0 dX10_isSuch_37 rfl ?_
    refine q_instNo F hb rfl hcl216 (by decide) dX10_isSuch_38 ?_
    refine q_toi (nI 0) rfl ?_
    refine q_zret F hr_ (by decide) dX10_isSuch_41 (hp_ _ _ ⟨congrArg (fun z => some (Value.int z)) ?_, ?_⟩)
    · decide
    · rfl
  · skip
    refine q_tableIn F (off := 41) (tgt := 42) dX10_isSuch_1 (by decide) (by decide) (by decide) (by decide) ?_
    refine q_aload_n F 0 dX10_isSuch_42 rfl ?_
    refine q_instNo F hb rfl hcl218 (by decide) dX10_isSuch_43 ?_
    refine q_toi (nI 0) rfl ?_
    refine q_zret F hr_ (by decide) dX10_isSuch_46 (hp_ _ _ ⟨congrArg (fun z => some (Value.int z)) ?_, ?_⟩)
    · decide
    · rfl
  · skip
    refine q_tableIn F (off := 46) (tgt := 47) dX10_isSuch_1 (by decide) (by decide) (by decide) (by decide) ?_
    refine q_aload_n F 0 dX10_isSuch_47 rfl ?_
    refine q_instNo F hb rfl hcl220 (by decide) dX10_isSuch_48 ?_
    refine q_toi (nI 0) rfl ?_
    refine q_zret F hr_ (by decide) dX10_isSuch_51 (hp_ _ _ ⟨congrArg (fun z => some (Value.int z)) ?_, ?_⟩)
    · decide
    · rfl

set_option maxHeartbeats 4000000 in
set_option maxRecDepth 100000 in
theorem c_X10_isSuch_1 (l : Launch) (E : gEnv) (ws : va_W) (b : Nat) (p l0 e : Int32) (hb : (b, (.inr (1, [.int p, .int l0, .int e]) : va_E)) ∈ ws) (j : Nat) (hj : j ≤ 4) : Cn l E yX10_isSuch wsX10_isSuch (rmL 0 0 0) [.ref b, .int (nI j)] (ws) 0 0 (fun v w => v = some (.int (bI (isS 2 j))) ∧ w = ws) := by
  refine Cn.of (own := RX10) (cc := cX10_isSuch) (maxL := 2) (ret := (some .boolean)) (lv := [(0, .ref b), (1, .int (nI j))]) (by decide) rfl rfl (Nat.le_of_ble_eq_true rfl) rfl ?_
  intro p_ e_ s_ m_ args_ below_ meth_ c_ A_ P_ hp_ F hr_ hnm_
  have hcl214 : Cond.classLink RX10 214 RX4 ∈ wsX10_isSuch := by decide +kernel
  have hcl216 : Cond.classLink RX10 216 RX1 ∈ wsX10_isSuch := by decide +kernel
  have hcl218 : Cond.classLink RX10 218 RX9 ∈ wsX10_isSuch := by decide +kernel
  have hcl220 : Cond.classLink RX10 220 RX3 ∈ wsX10_isSuch := by decide +kernel
  refine q_iload_n F 1 dX10_isSuch_0 rfl ?_
  rcases (show j = 0 ∨ j = 1 ∨ j = 2 ∨ j = 3 ∨ j = 4 by omega) with rfl | rfl | rfl | rfl | rfl
  · skip
    refine q_tableOut F (tgt := 52) dX10_isSuch_1 (by decide) (by decide) ?_
    refine q_iconst F dX10_isSuch_52 (v := nI 1) (by decide) ?_
    refine q_zret F hr_ (by decide) dX10_isSuch_53 (hp_ _ _ ⟨congrArg (fun z => some (Value.int z)) ?_, ?_⟩)
    · decide
    · rfl
  · skip
    refine q_tableIn F (off := 31) (tgt := 32) dX10_isSuch_1 (by decide) (by decide) (by decide) (by decide) ?_
    refine q_aload_n F 0 dX10_isSuch_32 rfl ?_
    refine q_instNo F hb rfl hcl214 (by decide) dX10_isSuch_33 ?_
    refine q_toi (nI 0) rfl ?_
    refine q_zret F hr_ (by decide) dX10_isSuch_36 (hp_ _ _ ⟨congrArg (fun z => some (Value.int z)) ?_, ?_⟩)
    · decide
    · rfl
  · skip
    refine q_tableIn F (off := 36) (tgt := 37) dX10_isSuch_1 (by decide) (by decide) (by decide) (by decide) ?_
    refine q_aload_n F 0 dX10_isSuch_37 rfl ?_
    refine q_instS F hb rfl hcl216 dX10_isSuch_38 ?_
    refine q_toi (nI 1) rfl ?_
    refine q_zret F hr_ (by decide) dX10_isSuch_41 (hp_ _ _ ⟨congrArg (fun z => some (Value.int z)) ?_, ?_⟩)
    · decide
    · rfl
  · skip
    refine q_tableIn F (off := 41) (tgt := 42) dX10_isSuch_1 (by decide) (by decide) (by decide) (by decide) ?_
    refine q_aload_n F 0 dX10_isSuch_42 rfl ?_
    refine q_instNo F hb rfl hcl218 (by decide) dX10_isSuch_43 ?_
    refine q_toi (nI 0) rfl ?_
    refine q_zret F hr_ (by decide) dX10_isSuch_46 (hp_ _ _ ⟨congrArg (fun z => some (Value.int z)) ?_, ?_⟩)
    · decide
    · rfl
  · skip
    refine q_tableIn F (off := 46) (tgt := 47) dX10_isSuch_1 (by decide) (by decide) (by decide) (by decide) ?_
    refine q_aload_n F 0 dX10_isSuch_47 rfl ?_
    refine q_instNo F hb rfl hcl220 (by decide) dX10_isSuch_48 ?_
    refine q_toi (nI 0) rfl ?_
    refine q_zret F hr_ (by decide) dX10_isSuch_51 (hp_ _ _ ⟨congrArg (fun z => some (Value.int z)) ?_, ?_⟩)
    · decide
    · rfl

set_option maxHeartbeats 4000000 in
set_option maxRecDepth 100000 in
theorem c_X10_isSuch_9 (l : Launch) (E : gEnv) (ws : va_W) (b : Nat) (p l0 e : Int32) (hb : (b, (.inr (9, [.int p, .int l0, .int e]) : va_E)) ∈ ws) (j : Nat) (hj : j ≤ 4) : Cn l E yX10_isSuch wsX10_isSuch (rmL 0 0 0) [.ref b, .int (nI j)] (ws) 0 0 (fun v w => v = some (.int (bI (isS 3 j))) ∧ w = ws) := by
  refine Cn.of (own := RX10) (cc := cX10_isSuch) (maxL := 2) (ret := (some .boolean)) (lv := [(0, .ref b), (1, .int (nI j))]) (by decide) rfl rfl (Nat.le_of_ble_eq_true rfl) rfl ?_
  intro p_ e_ s_ m_ args_ below_ meth_ c_ A_ P_ hp_ F hr_ hnm_
  have hcl214 : Cond.classLink RX10 214 RX4 ∈ wsX10_isSuch := by decide +kernel
  have hcl216 : Cond.classLink RX10 216 RX1 ∈ wsX10_isSuch := by decide +kernel
  have hcl218 : Cond.classLink RX10 218 RX9 ∈ wsX10_isSuch := by decide +kernel
  have hcl220 : Cond.classLink RX10 220 RX3 ∈ wsX10_isSuch := by decide +kernel
  refine q_iload_n F 1 dX10_isSuch_0 rfl ?_
  rcases (show j = 0 ∨ j = 1 ∨ j = 2 ∨ j = 3 ∨ j = 4 by omega) with rfl | rfl | rfl | rfl | rfl
  · skip
    refine q_tableOut F (tgt := 52) dX10_isSuch_1 (by decide) (by decide) ?_
    refine q_iconst F dX10_isSuch_52 (v := nI 1) (by decide) ?_
    refine q_zret F hr_ (by decide) dX10_isSuch_53 (hp_ _ _ ⟨congrArg (fun z => some (Value.int z)) ?_, ?_⟩)
    · decide
    · rfl
  · skip
    refine q_tableIn F (off := 31) (tgt := 32) dX10_isSuch_1 (by decide) (by decide) (by decide) (by decide) ?_
    refine q_aload_n F 0 dX10_isSuch_32 rfl ?_
    refine q_instNo F hb rfl hcl214 (by decide) dX10_isSuch_33 ?_
    refine q_toi (nI 0) rfl ?_
    refine q_zret F hr_ (by decide) dX10_isSuch_36 (hp_ _ _ ⟨congrArg (fun z => some (Value.int z)) ?_, ?_⟩)
    · decide
    · rfl
  · skip
    refine q_tableIn F (off := 36) (tgt := 37) dX10_isSuch_1 (by decide) (by decide) (by decide) (by decide) ?_
    refine q_aload_n F 0 dX10_isSuch_37 rfl ?_
    refine q_instNo F hb rfl hcl216 (by decide) dX10_isSuch_38 ?_
    refine q_toi (nI 0) rfl ?_
    refine q_zret F hr_ (by decide) dX10_isSuch_41 (hp_ _ _ ⟨congrArg (fun z => some (Value.int z)) ?_, ?_⟩)
    · decide
    · rfl
  · skip
    refine q_tableIn F (off := 41) (tgt := 42) dX10_isSuch_1 (by decide) (by decide) (by decide) (by decide) ?_
    refine q_aload_n F 0 dX10_isSuch_42 rfl ?_
    refine q_instS F hb rfl hcl218 dX10_isSuch_43 ?_
    refine q_toi (nI 1) rfl ?_
    refine q_zret F hr_ (by decide) dX10_isSuch_46 (hp_ _ _ ⟨congrArg (fun z => some (Value.int z)) ?_, ?_⟩)
    · decide
    · rfl
  · skip
    refine q_tableIn F (off := 46) (tgt := 47) dX10_isSuch_1 (by decide) (by decide) (by decide) (by decide) ?_
    refine q_aload_n F 0 dX10_isSuch_47 rfl ?_
    refine q_instNo F hb rfl hcl220 (by decide) dX10_isSuch_48 ?_
    refine q_toi (nI 0) rfl ?_
    refine q_zret F hr_ (by decide) dX10_isSuch_51 (hp_ _ _ ⟨congrArg (fun z => some (Value.int z)) ?_, ?_⟩)
    · decide
    · rfl

set_option maxHeartbeats 4000000 in
set_option maxRecDepth 100000 in
theorem c_X10_isSuch_3 (l : Launch) (E : gEnv) (ws : va_W) (b : Nat) (p l0 e : Int32) (hb : (b, (.inr (3, [.int p, .int l0, .int e]) : va_E)) ∈ ws) (j : Nat) (hj : j ≤ 4) : Cn l E yX10_isSuch wsX10_isSuch (rmL 0 0 0) [.ref b, .int (nI j)] (ws) 0 0 (fun v w => v = some (.int (bI (isS 4 j))) ∧ w = ws) := by
  refine Cn.of (own := RX10) (cc := cX10_isSuch) (maxL := 2) (ret := (some .boolean)) (lv := [(0, .ref b), (1, .int (nI j))]) (by decide) rfl rfl (Nat.le_of_ble_eq_true rfl) rfl ?_
  intro p_ e_ s_ m_ args_ below_ meth_ c_ A_ P_ hp_ F hr_ hnm_
  have hcl214 : Cond.classLink RX10 214 RX4 ∈ wsX10_isSuch := by decide +kernel
  have hcl216 : Cond.classLink RX10 216 RX1 ∈ wsX10_isSuch := by decide +kernel
  have hcl218 : Cond.classLink RX10 218 RX9 ∈ wsX10_isSuch := by decide +kernel
  have hcl220 : Cond.classLink RX10 220 RX3 ∈ wsX10_isSuch := by decide +kernel
  refine q_iload_n F 1 dX10_isSuch_0 rfl ?_
  rcases (show j = 0 ∨ j = 1 ∨ j = 2 ∨ j = 3 ∨ j = 4 by omega) with rfl | rfl | rfl | rfl | rfl
  · skip
    refine q_tableOut F (tgt := 52) dX10_isSuch_1 (by decide) (by decide) ?_
    refine q_iconst F dX10_isSuch_52 (v := nI 1) (by decide) ?_
    refine q_zret F hr_ (by decide) dX10_isSuch_53 (hp_ _ _ ⟨congrArg (fun z => some (Value.int z)) ?_, ?_⟩)
    · decide
    · rfl
  · skip
    refine q_tableIn F (off := 31) (tgt := 32) dX10_isSuch_1 (by decide) (by decide) (by decide) (by decide) ?_
    refine q_aload_n F 0 dX10_isSuch_32 rfl ?_
    refine q_instNo F hb rfl hcl214 (by decide) dX10_isSuch_33 ?_
    refine q_toi (nI 0) rfl ?_
    refine q_zret F hr_ (by decide) dX10_isSuch_36 (hp_ _ _ ⟨congrArg (fun z => some (Value.int z)) ?_, ?_⟩)
    · decide
    · rfl
  · skip
    refine q_tableIn F (off := 36) (tgt := 37) dX10_isSuch_1 (by decide) (by decide) (by decide) (by decide) ?_
    refine q_aload_n F 0 dX10_isSuch_37 rfl ?_
    refine q_instNo F hb rfl hcl216 (by decide) dX10_isSuch_38 ?_
    refine q_toi (nI 0) rfl ?_
    refine q_zret F hr_ (by decide) dX10_isSuch_41 (hp_ _ _ ⟨congrArg (fun z => some (Value.int z)) ?_, ?_⟩)
    · decide
    · rfl
  · skip
    refine q_tableIn F (off := 41) (tgt := 42) dX10_isSuch_1 (by decide) (by decide) (by decide) (by decide) ?_
    refine q_aload_n F 0 dX10_isSuch_42 rfl ?_
    refine q_instY F hb rfl hcl218 (by decide) dX10_isSuch_43 ?_
    refine q_toi (nI 1) rfl ?_
    refine q_zret F hr_ (by decide) dX10_isSuch_46 (hp_ _ _ ⟨congrArg (fun z => some (Value.int z)) ?_, ?_⟩)
    · decide
    · rfl
  · skip
    refine q_tableIn F (off := 46) (tgt := 47) dX10_isSuch_1 (by decide) (by decide) (by decide) (by decide) ?_
    refine q_aload_n F 0 dX10_isSuch_47 rfl ?_
    refine q_instS F hb rfl hcl220 dX10_isSuch_48 ?_
    refine q_toi (nI 1) rfl ?_
    refine q_zret F hr_ (by decide) dX10_isSuch_51 (hp_ _ _ ⟨congrArg (fun z => some (Value.int z)) ?_, ?_⟩)
    · decide
    · rfl

set_option maxHeartbeats 2000000 in
set_option maxRecDepth 100000 in
theorem c_X10_toldOf (l : Launch) (E : gEnv) (x : Nat) (q t a k u r kd : Nat → Nat) (T : gTown) (g : Nat → Int32) (n : Nat) (pf : Nat → Int32) (sn : Int32) (B : Nat → Nat → Int32) (kp km ku : Int32) (sn1 : Int32) (B1 : Nat → Nat → Int32) (kp1 km1 ku1 : Int32) (sn2 : Int32) (B2 : Nat → Nat → Int32) (kp2 km2 ku2 : Int32) (rg O BO P M U : Nat → Int32) (tl : va_W) (hH : isHs T tl) (hn : tN T ≤ 6) (hq : n ≤ 30) (h j : Nat) (hh : h < tN T) (hj : j ≤ 7) : Cn l E yX10_toldOf wsX10_toldOf (rmL 1 0 0) [.ref x, .int (nI h), .int (nI j)] (oC x (q 0) (t 0) (a 0) (k 0) (u 0) (r 0) g ++ (pC E q n pf ++ (tC E t T ++ (nC E a (t 0) sn B ++ (kC (a 1) kp km ku ++ (nC E k (t 0) sn1 B1 ++ (kC (k 1) kp1 km1 ku1 ++ (nC E u (t 0) sn2 B2 ++ (kC (u 1) kp2 km2 ku2 ++ (rC E r (t 0) kd rg O BO ++ (ksC kd P M U ++ tl))))))))))) 0 0 (fun v w => v = some (.int (tdF T B h j)) ∧ w = oC x (q 0) (t 0) (a 0) (k 0) (u 0) (r 0) g ++ (pC E q n pf ++ (tC E t T ++ (nC E a (t 0) sn B ++ (kC (a 1) kp km ku ++ (nC E k (t 0) sn1 B1 ++ (kC (k 1) kp1 km1 ku1 ++ (nC E u (t 0) sn2 B2 ++ (kC (u 1) kp2 km2 ku2 ++ (rC E r (t 0) kd rg O BO ++ (ksC kd P M U ++ tl))))))))))) := by
  refine Cn.of (own := RX10) (cc := cX10_toldOf) (maxL := 4) (ret := (some .int)) (lv := [(0, .ref x), (1, .int (nI h)), (2, .int (nI j))]) (by decide) rfl rfl (Nat.le_of_ble_eq_true rfl) rfl ?_
  intro p_ e_ s_ m_ args_ below_ meth_ c_ A_ P_ hp_ F hr_ hnm_
  have hf21_10 : Cond.fieldLink RX10 21 "KeyOnStreet" (TX10 1).2.1 (TX10 1).2.2.1 ∈ wsX10_toldOf := by decide +kernel
  have hi10 : ∀ w ∈ u_ws RX10 TX10 11, w ∈ wsX10_toldOf := by decide +kernel
  have hd_X8_at : yX8_at.cls = RX8 ∧ yX8_at.cls ≠ "java/lang/invoke/MethodHandle" ∧ yX8_at.cls ≠ "java/lang/invoke/VarHandle" ∧ (parseMethodDescriptor yX8_at.desc).map (fun d => d.parameters.length) = some 1 := by decide +kernel
  have hd_X0_kind : yX0_kind.cls = RX0 ∧ yX0_kind.cls ≠ "java/lang/invoke/MethodHandle" ∧ yX0_kind.cls ≠ "java/lang/invoke/VarHandle" ∧ (parseMethodDescriptor yX0_kind.desc).map (fun d => d.parameters.length) = some 0 := by decide +kernel
  have hd_X4_kind_O : "KeyOnStreet$House" ≠ "java/lang/invoke/MethodHandle" ∧ "KeyOnStreet$House" ≠ "java/lang/invoke/VarHandle" ∧ (parseMethodDescriptor "()I").map (fun d => d.parameters.length) = some 0 := by decide +kernel
  have hc_kind : Cond.code ⟨"KeyOnStreet$House", "kind", "()I"⟩ cX0_kind 1 (some .int) ∈ wsX10_toldOf := by decide +kernel
  have hd_X1_kind_O : "KeyOnStreet$House" ≠ "java/lang/invoke/MethodHandle" ∧ "KeyOnStreet$House" ≠ "java/lang/invoke/VarHandle" ∧ (parseMethodDescriptor "()I").map (fun d => d.parameters.length) = some 0 := by decide +kernel
  have hd_X9_kind_O : "KeyOnStreet$House" ≠ "java/lang/invoke/MethodHandle" ∧ "KeyOnStreet$House" ≠ "java/lang/invoke/VarHandle" ∧ (parseMethodDescriptor "()I").map (fun d => d.parameters.length) = some 0 := by decide +kernel
  have hd_X3_kind_O : "KeyOnStreet$House" ≠ "java/lang/invoke/MethodHandle" ∧ "KeyOnStreet$House" ≠ "java/lang/invoke/VarHandle" ∧ (parseMethodDescriptor "()I").map (fun d => d.parameters.length) = some 0 := by decide +kernel
  have hf227_0 : Cond.fieldLink RX10 227 "KeyOnStreet$House" (TX0 0).2.1 (TX0 0).2.2.1 ∈ wsX10_toldOf := by decide +kernel
  have hi0 : ∀ w ∈ u_ws RX0 TX0 3, w ∈ wsX10_toldOf := by decide +kernel
  have hf227_4 : Cond.fieldLink RX10 227 "KeyOnStreet$House" (TX4 0).2.1 (TX4 0).2.2.1 ∈ wsX10_toldOf := by decide +kernel
  have hi4 : ∀ w ∈ u_ws RX4 TX4 3, w ∈ wsX10_toldOf := by decide +kernel
  have hf227_1 : Cond.fieldLink RX10 227 "KeyOnStreet$House" (TX1 0).2.1 (TX1 0).2.2.1 ∈ wsX10_toldOf := by decide +kernel
  have hi1 : ∀ w ∈ u_ws RX1 TX1 3, w ∈ wsX10_toldOf := by decide +kernel
  have hf227_9 : Cond.fieldLink RX10 227 "KeyOnStreet$House" (TX9 0).2.1 (TX9 0).2.2.1 ∈ wsX10_toldOf := by decide +kernel
  have hi9 : ∀ w ∈ u_ws RX9 TX9 3, w ∈ wsX10_toldOf := by decide +kernel
  have hf227_3 : Cond.fieldLink RX10 227 "KeyOnStreet$House" (TX3 0).2.1 (TX3 0).2.2.1 ∈ wsX10_toldOf := by decide +kernel
  have hi3 : ∀ w ∈ u_ws RX3 TX3 3, w ∈ wsX10_toldOf := by decide +kernel
  have hf228_0 : Cond.fieldLink RX10 228 "KeyOnStreet$House" (TX0 1).2.1 (TX0 1).2.2.1 ∈ wsX10_toldOf := by decide +kernel
  have hf228_4 : Cond.fieldLink RX10 228 "KeyOnStreet$House" (TX4 1).2.1 (TX4 1).2.2.1 ∈ wsX10_toldOf := by decide +kernel
  have hf228_1 : Cond.fieldLink RX10 228 "KeyOnStreet$House" (TX1 1).2.1 (TX1 1).2.2.1 ∈ wsX10_toldOf := by decide +kernel
  have hf228_9 : Cond.fieldLink RX10 228 "KeyOnStreet$House" (TX9 1).2.1 (TX9 1).2.2.1 ∈ wsX10_toldOf := by decide +kernel
  have hf228_3 : Cond.fieldLink RX10 228 "KeyOnStreet$House" (TX3 1).2.1 (TX3 1).2.2.1 ∈ wsX10_toldOf := by decide +kernel
  have hf231_0 : Cond.fieldLink RX10 231 "KeyOnStreet$House" (TX0 2).2.1 (TX0 2).2.2.1 ∈ wsX10_toldOf := by decide +kernel
  have hf231_4 : Cond.fieldLink RX10 231 "KeyOnStreet$House" (TX4 2).2.1 (TX4 2).2.2.1 ∈ wsX10_toldOf := by decide +kernel
  have hf231_1 : Cond.fieldLink RX10 231 "KeyOnStreet$House" (TX1 2).2.1 (TX1 2).2.2.1 ∈ wsX10_toldOf := by decide +kernel
  have hf231_9 : Cond.fieldLink RX10 231 "KeyOnStreet$House" (TX9 2).2.1 (TX9 2).2.2.1 ∈ wsX10_toldOf := by decide +kernel
  have hf231_3 : Cond.fieldLink RX10 231 "KeyOnStreet$House" (TX3 2).2.1 (TX3 2).2.2.1 ∈ wsX10_toldOf := by decide +kernel
  have hf30_10 : Cond.fieldLink RX10 30 "KeyOnStreet" (TX10 2).2.1 (TX10 2).2.2.1 ∈ wsX10_toldOf := by decide +kernel
  have hf98_5 : Cond.fieldLink RX10 98 "KeyOnStreet$Night" (TX5 2).2.1 (TX5 2).2.2.1 ∈ wsX10_toldOf := by decide +kernel
  have hi5 : ∀ w ∈ u_ws RX5 TX5 10, w ∈ wsX10_toldOf := by decide +kernel
  have hf234_5 : Cond.fieldLink RX10 234 "KeyOnStreet$Night" (TX5 3).2.1 (TX5 3).2.2.1 ∈ wsX10_toldOf := by decide +kernel
  have hf237_5 : Cond.fieldLink RX10 237 "KeyOnStreet$Night" (TX5 4).2.1 (TX5 4).2.2.1 ∈ wsX10_toldOf := by decide +kernel
  have hf240_5 : Cond.fieldLink RX10 240 "KeyOnStreet$Night" (TX5 5).2.1 (TX5 5).2.2.1 ∈ wsX10_toldOf := by decide +kernel
  refine q_aload_n F 0 dX10_toldOf_0 rfl ?_
  refine q_get F (ci := 10) (j := 1) (v := .ref (t 0)) (List.mem_append_left _ (List.mem_of_getElem? (i := 0) rfl)) rfl hi10 (by decide) hf21_10 rfl rfl dX10_toldOf_1 ?_
  refine q_iload_n F 1 dX10_toldOf_4 rfl ?_
  refine q_callV F (ci := 8) (As := [.int (nI h)]) (rest := []) (List.mem_append_right _ (List.mem_append_right _ (List.mem_append_left _ (List.mem_of_getElem? (i := 0) rfl)))) rfl (c_X8_at l E t T (oC x (q 0) (t 0) (a 0) (k 0) (u 0) (r 0) g ++ (pC E q n pf ++ (tC E t T ++ (nC E a (t 0) sn B ++ (kC (a 1) kp km ku ++ (nC E k (t 0) sn1 B1 ++ (kC (k 1) kp1 km1 ku1 ++ (nC E u (t 0) sn2 B2 ++ (kC (u 1) kp2 km2 ku2 ++ (rC E r (t 0) kd rg O BO ++ (ksC kd P M U ++ tl))))))))))) (isIn.r _ (isIn.r _ (isIn.l _ _))) h (by omega) hn) (List.Perm.refl _) gX10_toldOf_X8_at rfl rfl rfl hd_X8_at ⟨by decide, by decide⟩ rfl (Nat.le_of_ble_eq_true rfl) dX10_toldOf_5 ⟨Nat.le_of_ble_eq_true rfl, Nat.le_of_ble_eq_true rfl⟩ (fun v_ w_ hvw => ?_)
  rw [hvw.1, hvw.2]
  clear hvw
  refine q_at (pc' := 8) (st' := [.ref (tA T h)]) (ws' := oC x (q 0) (t 0) (a 0) (k 0) (u 0) (r 0) g ++ (pC E q n pf ++ (tC E t T ++ (nC E a (t 0) sn B ++ (kC (a 1) kp km ku ++ (nC E k (t 0) sn1 B1 ++ (kC (k 1) kp1 km1 ku1 ++ (nC E u (t 0) sn2 B2 ++ (kC (u 1) kp2 km2 ku2 ++ (rC E r (t 0) kd rg O BO ++ (ksC kd P M U ++ tl))))))))))) (k' := 0) (n' := 0) rfl rfl rfl rfl rfl ?_
  refine q_astore_n F (lv' := [(3, .ref (tA T h)), (0, .ref x), (1, .int (nI h)), (2, .int (nI j))]) dX10_toldOf_8 (by decide) rfl ?_
  refine q_iload_n F 3 dX10_toldOf_9 rfl ?_
  rcases (show j = 0 ∨ j = 1 ∨ j = 2 ∨ j = 3 ∨ j = 4 ∨ j = 5 ∨ j = 6 ∨ j = 7 by omega) with rfl | rfl | rfl | rfl | rfl | rfl | rfl | rfl
  · skip
    refine q_tableIn F (off := 42) (tgt := 52) dX10_toldOf_10 (by decide) (by decide) (by decide) (by decide) ?_
    refine q_aload_n F 0 dX10_toldOf_52 rfl ?_
    obtain ⟨hk5_0, hm5_0⟩ := hH h (by omega)
    rcases (show tK T h = 0 ∨ tK T h = 1 ∨ tK T h = 2 ∨ tK T h = 3 ∨ tK T h = 4 by omega) with ek | ek | ek | ek | ek
    · skip
      rw [ek] at hm5_0
      have hm6 : (tA T h, (.inr (0, [.int (tP T h), .int (tL T h), .int (tE T h)]) : va_E)) ∈ tl := hm5_0
      refine q_callV F (ci := 0) (As := []) (rest := []) (List.mem_append_right _ (List.mem_append_right _ (List.mem_append_right _ (List.mem_append_right _ (List.mem_append_right _ (List.mem_append_right _ (List.mem_append_right _ (List.mem_append_right _ (List.mem_append_right _ (List.mem_append_right _ (List.mem_append_right _ hm6))))))))))) rfl (c_X0_kind l E _ (tA T h)) (List.Perm.refl _) gX10_toldOf_X0_kind rfl rfl rfl hd_X0_kind ⟨by decide, by decide⟩ rfl (Nat.le_of_ble_eq_true rfl) dX10_toldOf_53 ⟨Nat.le_of_ble_eq_true rfl, Nat.le_of_ble_eq_true rfl⟩ (fun v_ w_ hvw => ?_)
      rw [hvw.1, hvw.2]
      clear hvw
      refine q_at (pc' := 56) (st' := [.int (nI 0)]) (ws' := oC x (q 0) (t 0) (a 0) (k 0) (u 0) (r 0) g ++ (pC E q n pf ++ (tC E t T ++ (nC E a (t 0) sn B ++ (kC (a 1) kp km ku ++ (nC E k (t 0) sn1 B1 ++ (kC (k 1) kp1 km1 ku1 ++ (nC E u (t 0) sn2 B2 ++ (kC (u 1) kp2 km2 ku2 ++ (rC E r (t 0) kd rg O BO ++ (ksC kd P M U ++ tl))))))))))) (k' := 0) (n' := 0) rfl rfl rfl rfl rfl ?_
      refine q_perm pf10 ?_
      refine q_perm pf10 ?_
      refine q_perm pf10 ?_
      refine q_perm pf10 ?_
      refine q_perm pf10 ?_
      refine q_perm pf10 ?_
      refine q_perm pf10 ?_
      refine q_perm pf10 ?_
      refine q_perm pf10 ?_
      refine q_perm pf10 ?_
      refine q_perm pf10 ?_
      refine q_iret F hr_ dX10_toldOf_56 (hp_ _ _ ⟨congrArg (fun z => some (Value.int z)) ?_, ?_⟩)
      · show _ = nI (tK T h); rw [ek]
      · rfl
    · skip
      rw [ek] at hm5_0
      have hm6 : (tA T h, (.inr (4, [.int (tP T h), .int (tL T h), .int (tE T h)]) : va_E)) ∈ tl := hm5_0
      refine q_callO F (ci := 4) (As := []) (rest := []) (List.mem_append_right _ (List.mem_append_right _ (List.mem_append_right _ (List.mem_append_right _ (List.mem_append_right _ (List.mem_append_right _ (List.mem_append_right _ (List.mem_append_right _ (List.mem_append_right _ (List.mem_append_right _ (List.mem_append_right _ hm6))))))))))) rfl (c_X4_kind l E _ (tA T h)) (List.Perm.refl _) gX10_toldOf_X4_kind_u222X4 rfl rfl rfl hc_kind hd_X4_kind_O ⟨by decide, by decide⟩ rfl (Nat.le_of_ble_eq_true rfl) dX10_toldOf_53 ⟨Nat.le_of_ble_eq_true rfl, Nat.le_of_ble_eq_true rfl⟩ (fun v_ w_ hvw => ?_)
      rw [hvw.1, hvw.2]
      clear hvw
      refine q_at (pc' := 56) (st' := [.int (nI 1)]) (ws' := oC x (q 0) (t 0) (a 0) (k 0) (u 0) (r 0) g ++ (pC E q n pf ++ (tC E t T ++ (nC E a (t 0) sn B ++ (kC (a 1) kp km ku ++ (nC E k (t 0) sn1 B1 ++ (kC (k 1) kp1 km1 ku1 ++ (nC E u (t 0) sn2 B2 ++ (kC (u 1) kp2 km2 ku2 ++ (rC E r (t 0) kd rg O BO ++ (ksC kd P M U ++ tl))))))))))) (k' := 0) (n' := 0) rfl rfl rfl rfl rfl ?_
      refine q_perm pf10 ?_
      refine q_perm pf10 ?_
      refine q_perm pf10 ?_
      refine q_perm pf10 ?_
      refine q_perm pf10 ?_
      refine q_perm pf10 ?_
      refine q_perm pf10 ?_
      refine q_perm pf10 ?_
      refine q_perm pf10 ?_
      refine q_perm pf10 ?_
      refine q_perm pf10 ?_
      refine q_iret F hr_ dX10_toldOf_56 (hp_ _ _ ⟨congrArg (fun z => some (Value.int z)) ?_, ?_⟩)
      · show _ = nI (tK T h); rw [ek]
      · rfl
    · skip
      rw [ek] at hm5_0
      have hm6 : (tA T h, (.inr (1, [.int (tP T h), .int (tL T h), .int (tE T h)]) : va_E)) ∈ tl := hm5_0
      refine q_callO F (ci := 1) (As := []) (rest := []) (List.mem_append_right _ (List.mem_append_right _ (List.mem_append_right _ (List.mem_append_right _ (List.mem_append_right _ (List.mem_append_right _ (List.mem_append_right _ (List.mem_append_right _ (List.mem_append_right _ (List.mem_append_right _ (List.mem_append_right _ hm6))))))))))) rfl (c_X1_kind l E _ (tA T h)) (List.Perm.refl _) gX10_toldOf_X1_kind_u222X1 rfl rfl rfl hc_kind hd_X1_kind_O ⟨by decide, by decide⟩ rfl (Nat.le_of_ble_eq_true rfl) dX10_toldOf_53 ⟨Nat.le_of_ble_eq_true rfl, Nat.le_of_ble_eq_true rfl⟩ (fun v_ w_ hvw => ?_)
      rw [hvw.1, hvw.2]
      clear hvw
      refine q_at (pc' := 56) (st' := [.int (nI 2)]) (ws' := oC x (q 0) (t 0) (a 0) (k 0) (u 0) (r 0) g ++ (pC E q n pf ++ (tC E t T ++ (nC E a (t 0) sn B ++ (kC (a 1) kp km ku ++ (nC E k (t 0) sn1 B1 ++ (kC (k 1) kp1 km1 ku1 ++ (nC E u (t 0) sn2 B2 ++ (kC (u 1) kp2 km2 ku2 ++ (rC E r (t 0) kd rg O BO ++ (ksC kd P M U ++ tl))))))))))) (k' := 0) (n' := 0) rfl rfl rfl rfl rfl ?_
      refine q_perm pf10 ?_
      refine q_perm pf10 ?_
      refine q_perm pf10 ?_
      refine q_perm pf10 ?_
      refine q_perm pf10 ?_
      refine q_perm pf10 ?_
      refine q_perm pf10 ?_
      refine q_perm pf10 ?_
      refine q_perm pf10 ?_
      refine q_perm pf10 ?_
      refine q_perm pf10 ?_
      refine q_iret F hr_ dX10_toldOf_56 (hp_ _ _ ⟨congrArg (fun z => some (Value.int z)) ?_, ?_⟩)
      · show _ = nI (tK T h); rw [ek]
      · rfl
    · skip
      rw [ek] at hm5_0
      have hm6 : (tA T h, (.inr (9, [.int (tP T h), .int (tL T h), .int (tE T h)]) : va_E)) ∈ tl := hm5_0
      refine q_callO F (ci := 9) (As := []) (rest := []) (List.mem_append_right _ (List.mem_append_right _ (List.mem_append_right _ (List.mem_append_right _ (List.mem_append_right _ (List.mem_append_right _ (List.mem_append_right _ (List.mem_append_right _ (List.mem_append_right _ (List.mem_append_right _ (List.mem_append_right _ hm6))))))))))) rfl (c_X9_kind l E _ (tA T h)) (List.Perm.refl _) gX10_toldOf_X9_kind_u222X9 rfl rfl rfl hc_kind hd_X9_kind_O ⟨by decide, by decide⟩ rfl (Nat.le_of_ble_eq_true rfl) dX10_toldOf_53 ⟨Nat.le_of_ble_eq_true rfl, Nat.le_of_ble_eq_true rfl⟩ (fun v_ w_ hvw => ?_)
      rw [hvw.1, hvw.2]
      clear hvw
      refine q_at (pc' := 56) (st' := [.int (nI 3)]) (ws' := oC x (q 0) (t 0) (a 0) (k 0) (u 0) (r 0) g ++ (pC E q n pf ++ (tC E t T ++ (nC E a (t 0) sn B ++ (kC (a 1) kp km ku ++ (nC E k (t 0) sn1 B1 ++ (kC (k 1) kp1 km1 ku1 ++ (nC E u (t 0) sn2 B2 ++ (kC (u 1) kp2 km2 ku2 ++ (rC E r (t 0) kd rg O BO ++ (ksC kd P M U ++ tl))))))))))) (k' := 0) (n' := 0) rfl rfl rfl rfl rfl ?_
      refine q_perm pf10 ?_
      refine q_perm pf10 ?_
      refine q_perm pf10 ?_
      refine q_perm pf10 ?_
      refine q_perm pf10 ?_
      refine q_perm pf10 ?_
      refine q_perm pf10 ?_
      refine q_perm pf10 ?_
      refine q_perm pf10 ?_
      refine q_perm pf10 ?_
      refine q_perm pf10 ?_
      refine q_iret F hr_ dX10_toldOf_56 (hp_ _ _ ⟨congrArg (fun z => some (Value.int z)) ?_, ?_⟩)
      · show _ = nI (tK T h); rw [ek]
      · rfl
    · skip
      rw [ek] at hm5_0
      have hm6 : (tA T h, (.inr (3, [.int (tP T h), .int (tL T h), .int (tE T h)]) : va_E)) ∈ tl := hm5_0
      refine q_callO F (ci := 3) (As := []) (rest := []) (List.mem_append_right _ (List.mem_append_right _ (List.mem_append_right _ (List.mem_append_right _ (List.mem_append_right _ (List.mem_append_right _ (List.mem_append_right _ (List.mem_append_right _ (List.mem_append_right _ (List.mem_append_right _ (List.mem_append_right _ hm6))))))))))) rfl (c_X3_kind l E _ (tA T h)) (List.Perm.refl _) gX10_toldOf_X3_kind_u222X3 rfl rfl rfl hc_kind hd_X3_kind_O ⟨by decide, by decide⟩ rfl (Nat.le_of_ble_eq_true rfl) dX10_toldOf_53 ⟨Nat.le_of_ble_eq_true rfl, Nat.le_of_ble_eq_true rfl⟩ (fun v_ w_ hvw => ?_)
      rw [hvw.1, hvw.2]
      clear hvw
      refine q_at (pc' := 56) (st' := [.int (nI 4)]) (ws' := oC x (q 0) (t 0) (a 0) (k 0) (u 0) (r 0) g ++ (pC E q n pf ++ (tC E t T ++ (nC E a (t 0) sn B ++ (kC (a 1) kp km ku ++ (nC E k (t 0) sn1 B1 ++ (kC (k 1) kp1 km1 ku1 ++ (nC E u (t 0) sn2 B2 ++ (kC (u 1) kp2 km2 ku2 ++ (rC E r (t 0) kd rg O BO ++ (ksC kd P M U ++ tl))))))))))) (k' := 0) (n' := 0) rfl rfl rfl rfl rfl ?_
      refine q_perm pf10 ?_
      refine q_perm pf10 ?_
      refine q_perm pf10 ?_
      refine q_perm pf10 ?_
      refine q_perm pf10 ?_
      refine q_perm pf10 ?_
      refine q_perm pf10 ?_
      refine q_perm pf10 ?_
      refine q_perm pf10 ?_
      refine q_perm pf10 ?_
      refine q_perm pf10 ?_
      refine q_iret F hr_ dX10_toldOf_56 (hp_ _ _ ⟨congrArg (fun z => some (Value.int z)) ?_, ?_⟩)
      · show _ = nI (tK T h); rw [ek]
      · rfl
  · skip
    refine q_tableIn F (off := 47) (tgt := 57) dX10_toldOf_10 (by decide) (by decide) (by decide) (by decide) ?_
    refine q_aload_n F 0 dX10_toldOf_57 rfl ?_
    obtain ⟨hk5_1, hm5_1⟩ := hH h (by omega)
    rcases (show tK T h = 0 ∨ tK T h = 1 ∨ tK T h = 2 ∨ tK T h = 3 ∨ tK T h = 4 by omega) with ek | ek | ek | ek | ek
    · skip
      rw [ek] at hm5_1
      have hm6 : (tA T h, (.inr (0, [.int (tP T h), .int (tL T h), .int (tE T h)]) : va_E)) ∈ tl := hm5_1
      refine q_get F (ci := 0) (j := 0) (v := .int (tP T h)) (List.mem_append_right _ (List.mem_append_right _ (List.mem_append_right _ (List.mem_append_right _ (List.mem_append_right _ (List.mem_append_right _ (List.mem_append_right _ (List.mem_append_right _ (List.mem_append_right _ (List.mem_append_right _ (List.mem_append_right _ hm6))))))))))) rfl hi0 (by decide) hf227_0 rfl rfl dX10_toldOf_58 ?_
      refine q_perm pf10 ?_
      refine q_perm pf10 ?_
      refine q_perm pf10 ?_
      refine q_perm pf10 ?_
      refine q_perm pf10 ?_
      refine q_perm pf10 ?_
      refine q_perm pf10 ?_
      refine q_perm pf10 ?_
      refine q_perm pf10 ?_
      refine q_perm pf10 ?_
      refine q_perm pf10 ?_
      refine q_iret F hr_ dX10_toldOf_61 (hp_ _ _ ⟨congrArg (fun z => some (Value.int z)) ?_, ?_⟩)
      · rfl
      · rfl
    · skip
      rw [ek] at hm5_1
      have hm6 : (tA T h, (.inr (4, [.int (tP T h), .int (tL T h), .int (tE T h)]) : va_E)) ∈ tl := hm5_1
      refine q_get F (ci := 4) (j := 0) (v := .int (tP T h)) (List.mem_append_right _ (List.mem_append_right _ (List.mem_append_right _ (List.mem_append_right _ (List.mem_append_right _ (List.mem_append_right _ (List.mem_append_right _ (List.mem_append_right _ (List.mem_append_right _ (List.mem_append_right _ (List.mem_append_right _ hm6))))))))))) rfl hi4 (by decide) hf227_4 rfl rfl dX10_toldOf_58 ?_
      refine q_perm pf10 ?_
      refine q_perm pf10 ?_
      refine q_perm pf10 ?_
      refine q_perm pf10 ?_
      refine q_perm pf10 ?_
      refine q_perm pf10 ?_
      refine q_perm pf10 ?_
      refine q_perm pf10 ?_
      refine q_perm pf10 ?_
      refine q_perm pf10 ?_
      refine q_perm pf10 ?_
      refine q_iret F hr_ dX10_toldOf_61 (hp_ _ _ ⟨congrArg (fun z => some (Value.int z)) ?_, ?_⟩)
      · rfl
      · rfl
    · skip
      rw [ek] at hm5_1
      have hm6 : (tA T h, (.inr (1, [.int (tP T h), .int (tL T h), .int (tE T h)]) : va_E)) ∈ tl := hm5_1
      refine q_get F (ci := 1) (j := 0) (v := .int (tP T h)) (List.mem_append_right _ (List.mem_append_right _ (List.mem_append_right _ (List.mem_append_right _ (List.mem_append_right _ (List.mem_append_right _ (List.mem_append_right _ (List.mem_append_right _ (List.mem_append_right _ (List.mem_append_right _ (List.mem_append_right _ hm6))))))))))) rfl hi1 (by decide) hf227_1 rfl rfl dX10_toldOf_58 ?_
      refine q_perm pf10 ?_
      refine q_perm pf10 ?_
      refine q_perm pf10 ?_
      refine q_perm pf10 ?_
      refine q_perm pf10 ?_
      refine q_perm pf10 ?_
      refine q_perm pf10 ?_
      refine q_perm pf10 ?_
      refine q_perm pf10 ?_
      refine q_perm pf10 ?_
      refine q_perm pf10 ?_
      refine q_iret F hr_ dX10_toldOf_61 (hp_ _ _ ⟨congrArg (fun z => some (Value.int z)) ?_, ?_⟩)
      · rfl
      · rfl
    · skip
      rw [ek] at hm5_1
      have hm6 : (tA T h, (.inr (9, [.int (tP T h), .int (tL T h), .int (tE T h)]) : va_E)) ∈ tl := hm5_1
      refine q_get F (ci := 9) (j := 0) (v := .int (tP T h)) (List.mem_append_right _ (List.mem_append_right _ (List.mem_append_right _ (List.mem_append_right _ (List.mem_append_right _ (List.mem_append_right _ (List.mem_append_right _ (List.mem_append_right _ (List.mem_append_right _ (List.mem_append_right _ (List.mem_append_right _ hm6))))))))))) rfl hi9 (by decide) hf227_9 rfl rfl dX10_toldOf_58 ?_
      refine q_perm pf10 ?_
      refine q_perm pf10 ?_
      refine q_perm pf10 ?_
      refine q_perm pf10 ?_
      refine q_perm pf10 ?_
      refine q_perm pf10 ?_
      refine q_perm pf10 ?_
      refine q_perm pf10 ?_
      refine q_perm pf10 ?_
      refine q_perm pf10 ?_
      refine q_perm pf10 ?_
      refine q_iret F hr_ dX10_toldOf_61 (hp_ _ _ ⟨congrArg (fun z => some (Value.int z)) ?_, ?_⟩)
      · rfl
      · rfl
    · skip
      rw [ek] at hm5_1
      have hm6 : (tA T h, (.inr (3, [.int (tP T h), .int (tL T h), .int (tE T h)]) : va_E)) ∈ tl := hm5_1
      refine q_get F (ci := 3) (j := 0) (v := .int (tP T h)) (List.mem_append_right _ (List.mem_append_right _ (List.mem_append_right _ (List.mem_append_right _ (List.mem_append_right _ (List.mem_append_right _ (List.mem_append_right _ (List.mem_append_right _ (List.mem_append_right _ (List.mem_append_right _ (List.mem_append_right _ hm6))))))))))) rfl hi3 (by decide) hf227_3 rfl rfl dX10_toldOf_58 ?_
      refine q_perm pf10 ?_
      refine q_perm pf10 ?_
      refine q_perm pf10 ?_
      refine q_perm pf10 ?_
      refine q_perm pf10 ?_
      refine q_perm pf10 ?_
      refine q_perm pf10 ?_
      refine q_perm pf10 ?_
      refine q_perm pf10 ?_
      refine q_perm pf10 ?_
      refine q_perm pf10 ?_
      refine q_iret F hr_ dX10_toldOf_61 (hp_ _ _ ⟨congrArg (fun z => some (Value.int z)) ?_, ?_⟩)
      · rfl
      · rfl
  · skip
    refine q_tableIn F (off := 52) (tgt := 62) dX10_toldOf_10 (by decide) (by decide) (by decide) (by decide) ?_
    refine q_aload_n F 0 dX10_toldOf_62 rfl ?_
    obtain ⟨hk5_2, hm5_2⟩ := hH h (by omega)
    rcases (show tK T h = 0 ∨ tK T h = 1 ∨ tK T h = 2 ∨ tK T h = 3 ∨ tK T h = 4 by omega) with ek | ek | ek | ek | ek
    · skip
      rw [ek] at hm5_2
      have hm6 : (tA T h, (.inr (0, [.int (tP T h), .int (tL T h), .int (tE T h)]) : va_E)) ∈ tl := hm5_2
      refine q_get F (ci := 0) (j := 1) (v := .int (tL T h)) (List.mem_append_right _ (List.mem_append_right _ (List.mem_append_right _ (List.mem_append_right _ (List.mem_append_right _ (List.mem_append_right _ (List.mem_append_right _ (List.mem_append_right _ (List.mem_append_right _ (List.mem_append_right _ (List.mem_append_right _ hm6))))))))))) rfl hi0 (by decide) hf228_0 rfl rfl dX10_toldOf_63 ?_
      refine q_perm pf10 ?_
      refine q_perm pf10 ?_
      refine q_perm pf10 ?_
      refine q_perm pf10 ?_
      refine q_perm pf10 ?_
      refine q_perm pf10 ?_
      refine q_perm pf10 ?_
      refine q_perm pf10 ?_
      refine q_perm pf10 ?_
      refine q_perm pf10 ?_
      refine q_perm pf10 ?_
      refine q_iret F hr_ dX10_toldOf_66 (hp_ _ _ ⟨congrArg (fun z => some (Value.int z)) ?_, ?_⟩)
      · rfl
      · rfl
    · skip
      rw [ek] at hm5_2
      have hm6 : (tA T h, (.inr (4, [.int (tP T h), .int (tL T h), .int (tE T h)]) : va_E)) ∈ tl := hm5_2
      refine q_get F (ci := 4) (j := 1) (v := .int (tL T h)) (List.mem_append_right _ (List.mem_append_right _ (List.mem_append_right _ (List.mem_append_right _ (List.mem_append_right _ (List.mem_append_right _ (List.mem_append_right _ (List.mem_append_right _ (List.mem_append_right _ (List.mem_append_right _ (List.mem_append_right _ hm6))))))))))) rfl hi4 (by decide) hf228_4 rfl rfl dX10_toldOf_63 ?_
      refine q_perm pf10 ?_
      refine q_perm pf10 ?_
      refine q_perm pf10 ?_
      refine q_perm pf10 ?_
      refine q_perm pf10 ?_
      refine q_perm pf10 ?_
      refine q_perm pf10 ?_
      refine q_perm pf10 ?_
      refine q_perm pf10 ?_
      refine q_perm pf10 ?_
      refine q_perm pf10 ?_
      refine q_iret F hr_ dX10_toldOf_66 (hp_ _ _ ⟨congrArg (fun z => some (Value.int z)) ?_, ?_⟩)
      · rfl
      · rfl
    · skip
      rw [ek] at hm5_2
      have hm6 : (tA T h, (.inr (1, [.int (tP T h), .int (tL T h), .int (tE T h)]) : va_E)) ∈ tl := hm5_2
      refine q_get F (ci := 1) (j := 1) (v := .int (tL T h)) (List.mem_append_right _ (List.mem_append_right _ (List.mem_append_right _ (List.mem_append_right _ (List.mem_append_right _ (List.mem_append_right _ (List.mem_append_right _ (List.mem_append_right _ (List.mem_append_right _ (List.mem_append_right _ (List.mem_append_right _ hm6))))))))))) rfl hi1 (by decide) hf228_1 rfl rfl dX10_toldOf_63 ?_
      refine q_perm pf10 ?_
      refine q_perm pf10 ?_
      refine q_perm pf10 ?_
      refine q_perm pf10 ?_
      refine q_perm pf10 ?_
      refine q_perm pf10 ?_
      refine q_perm pf10 ?_
      refine q_perm pf10 ?_
      refine q_perm pf10 ?_
      refine q_perm pf10 ?_
      refine q_perm pf10 ?_
      refine q_iret F hr_ dX10_toldOf_66 (hp_ _ _ ⟨congrArg (fun z => some (Value.int z)) ?_, ?_⟩)
      · rfl
      · rfl
    · skip
      rw [ek] at hm5_2
      have hm6 : (tA T h, (.inr (9, [.int (tP T h), .int (tL T h), .int (tE T h)]) : va_E)) ∈ tl := hm5_2
      refine q_get F (ci := 9) (j := 1) (v := .int (tL T h)) (List.mem_append_right _ (List.mem_append_right _ (List.mem_append_right _ (List.mem_append_right _ (List.mem_append_right _ (List.mem_append_right _ (List.mem_append_right _ (List.mem_append_right _ (List.mem_append_right _ (List.mem_append_right _ (List.mem_append_right _ hm6))))))))))) rfl hi9 (by decide) hf228_9 rfl rfl dX10_toldOf_63 ?_
      refine q_perm pf10 ?_
      refine q_perm pf10 ?_
      refine q_perm pf10 ?_
      refine q_perm pf10 ?_
      refine q_perm pf10 ?_
      refine q_perm pf10 ?_
      refine q_perm pf10 ?_
      refine q_perm pf10 ?_
      refine q_perm pf10 ?_
      refine q_perm pf10 ?_
      refine q_perm pf10 ?_
      refine q_iret F hr_ dX10_toldOf_66 (hp_ _ _ ⟨congrArg (fun z => some (Value.int z)) ?_, ?_⟩)
      · rfl
      · rfl
    · skip
      rw [ek] at hm5_2
      have hm6 : (tA T h, (.inr (3, [.int (tP T h), .int (tL T h), .int (tE T h)]) : va_E)) ∈ tl := hm5_2
      refine q_get F (ci := 3) (j := 1) (v := .int (tL T h)) (List.mem_append_right _ (List.mem_append_right _ (List.mem_append_right _ (List.mem_append_right _ (List.mem_append_right _ (List.mem_append_right _ (List.mem_append_right _ (List.mem_append_right _ (List.mem_append_right _ (List.mem_append_right _ (List.mem_append_right _ hm6))))))))))) rfl hi3 (by decide) hf228_3 rfl rfl dX10_toldOf_63 ?_
      refine q_perm pf10 ?_
      refine q_perm pf10 ?_
      refine q_perm pf10 ?_
      refine q_perm pf10 ?_
      refine q_perm pf10 ?_
      refine q_perm pf10 ?_
      refine q_perm pf10 ?_
      refine q_perm pf10 ?_
      refine q_perm pf10 ?_
      refine q_perm pf10 ?_
      refine q_perm pf10 ?_
      refine q_iret F hr_ dX10_toldOf_66 (hp_ _ _ ⟨congrArg (fun z => some (Value.int z)) ?_, ?_⟩)
      · rfl
      · rfl
  · skip
    refine q_tableIn F (off := 57) (tgt := 67) dX10_toldOf_10 (by decide) (by decide) (by decide) (by decide) ?_
    refine q_aload_n F 0 dX10_toldOf_67 rfl ?_
    obtain ⟨hk5_3, hm5_3⟩ := hH h (by omega)
    rcases (show tK T h = 0 ∨ tK T h = 1 ∨ tK T h = 2 ∨ tK T h = 3 ∨ tK T h = 4 by omega) with ek | ek | ek | ek | ek
    · skip
      rw [ek] at hm5_3
      have hm6 : (tA T h, (.inr (0, [.int (tP T h), .int (tL T h), .int (tE T h)]) : va_E)) ∈ tl := hm5_3
      refine q_get F (ci := 0) (j := 2) (v := .int (tE T h)) (List.mem_append_right _ (List.mem_append_right _ (List.mem_append_right _ (List.mem_append_right _ (List.mem_append_right _ (List.mem_append_right _ (List.mem_append_right _ (List.mem_append_right _ (List.mem_append_right _ (List.mem_append_right _ (List.mem_append_right _ hm6))))))))))) rfl hi0 (by decide) hf231_0 rfl rfl dX10_toldOf_68 ?_
      refine q_perm pf10 ?_
      refine q_perm pf10 ?_
      refine q_perm pf10 ?_
      refine q_perm pf10 ?_
      refine q_perm pf10 ?_
      refine q_perm pf10 ?_
      refine q_perm pf10 ?_
      refine q_perm pf10 ?_
      refine q_perm pf10 ?_
      refine q_perm pf10 ?_
      refine q_perm pf10 ?_
      refine q_iret F hr_ dX10_toldOf_71 (hp_ _ _ ⟨congrArg (fun z => some (Value.int z)) ?_, ?_⟩)
      · rfl
      · rfl
    · skip
      rw [ek] at hm5_3
      have hm6 : (tA T h, (.inr (4, [.int (tP T h), .int (tL T h), .int (tE T h)]) : va_E)) ∈ tl := hm5_3
      refine q_get F (ci := 4) (j := 2) (v := .int (tE T h)) (List.mem_append_right _ (List.mem_append_right _ (List.mem_append_right _ (List.mem_append_right _ (List.mem_append_right _ (List.mem_append_right _ (List.mem_append_right _ (List.mem_append_right _ (List.mem_append_right _ (List.mem_append_right _ (List.mem_append_right _ hm6))))))))))) rfl hi4 (by decide) hf231_4 rfl rfl dX10_toldOf_68 ?_
      refine q_perm pf10 ?_
      refine q_perm pf10 ?_
      refine q_perm pf10 ?_
      refine q_perm pf10 ?_
      refine q_perm pf10 ?_
      refine q_perm pf10 ?_
      refine q_perm pf10 ?_
      refine q_perm pf10 ?_
      refine q_perm pf10 ?_
      refine q_perm pf10 ?_
      refine q_perm pf10 ?_
      refine q_iret F hr_ dX10_toldOf_71 (hp_ _ _ ⟨congrArg (fun z => some (Value.int z)) ?_, ?_⟩)
      · rfl
      · rfl
    · skip
      rw [ek] at hm5_3
      have hm6 : (tA T h, (.inr (1, [.int (tP T h), .int (tL T h), .int (tE T h)]) : va_E)) ∈ tl := hm5_3
      refine q_get F (ci := 1) (j := 2) (v := .int (tE T h)) (List.mem_append_right _ (List.mem_append_right _ (List.mem_append_right _ (List.mem_append_right _ (List.mem_append_right _ (List.mem_append_right _ (List.mem_append_right _ (List.mem_append_right _ (List.mem_append_right _ (List.mem_append_right _ (List.mem_append_right _ hm6))))))))))) rfl hi1 (by decide) hf231_1 rfl rfl dX10_toldOf_68 ?_
      refine q_perm pf10 ?_
      refine q_perm pf10 ?_
      refine q_perm pf10 ?_
      refine q_perm pf10 ?_
      refine q_perm pf10 ?_
      refine q_perm pf10 ?_
      refine q_perm pf10 ?_
      refine q_perm pf10 ?_
      refine q_perm pf10 ?_
      refine q_perm pf10 ?_
      refine q_perm pf10 ?_
      refine q_iret F hr_ dX10_toldOf_71 (hp_ _ _ ⟨congrArg (fun z => some (Value.int z)) ?_, ?_⟩)
      · rfl
      · rfl
    · skip
      rw [ek] at hm5_3
      have hm6 : (tA T h, (.inr (9, [.int (tP T h), .int (tL T h), .int (tE T h)]) : va_E)) ∈ tl := hm5_3
      refine q_get F (ci := 9) (j := 2) (v := .int (tE T h)) (List.mem_append_right _ (List.mem_append_right _ (List.mem_append_right _ (List.mem_append_right _ (List.mem_append_right _ (List.mem_append_right _ (List.mem_append_right _ (List.mem_append_right _ (List.mem_append_right _ (List.mem_append_right _ (List.mem_append_right _ hm6))))))))))) rfl hi9 (by decide) hf231_9 rfl rfl dX10_toldOf_68 ?_
      refine q_perm pf10 ?_
      refine q_perm pf10 ?_
      refine q_perm pf10 ?_
      refine q_perm pf10 ?_
      refine q_perm pf10 ?_
      refine q_perm pf10 ?_
      refine q_perm pf10 ?_
      refine q_perm pf10 ?_
      refine q_perm pf10 ?_
      refine q_perm pf10 ?_
      refine q_perm pf10 ?_
      refine q_iret F hr_ dX10_toldOf_71 (hp_ _ _ ⟨congrArg (fun z => some (Value.int z)) ?_, ?_⟩)
      · rfl
      · rfl
    · skip
      rw [ek] at hm5_3
      have hm6 : (tA T h, (.inr (3, [.int (tP T h), .int (tL T h), .int (tE T h)]) : va_E)) ∈ tl := hm5_3
      refine q_get F (ci := 3) (j := 2) (v := .int (tE T h)) (List.mem_append_right _ (List.mem_append_right _ (List.mem_append_right _ (List.mem_append_right _ (List.mem_append_right _ (List.mem_append_right _ (List.mem_append_right _ (List.mem_append_right _ (List.mem_append_right _ (List.mem_append_right _ (List.mem_append_right _ hm6))))))))))) rfl hi3 (by decide) hf231_3 rfl rfl dX10_toldOf_68 ?_
      refine q_perm pf10 ?_
      refine q_perm pf10 ?_
      refine q_perm pf10 ?_
      refine q_perm pf10 ?_
      refine q_perm pf10 ?_
      refine q_perm pf10 ?_
      refine q_perm pf10 ?_
      refine q_perm pf10 ?_
      refine q_perm pf10 ?_
      refine q_perm pf10 ?_
      refine q_perm pf10 ?_
      refine q_iret F hr_ dX10_toldOf_71 (hp_ _ _ ⟨congrArg (fun z => some (Value.int z)) ?_, ?_⟩)
      · rfl
      · rfl
  · skip
    refine q_tableIn F (off := 62) (tgt := 72) dX10_toldOf_10 (by decide) (by decide) (by decide) (by decide) ?_
    refine q_aload_n F 1 dX10_toldOf_72 rfl ?_
    refine q_get F (ci := 10) (j := 2) (v := .ref (a 0)) (List.mem_append_left _ (List.mem_of_getElem? (i := 0) rfl)) rfl hi10 (by decide) hf30_10 rfl rfl dX10_toldOf_73 ?_
    refine q_get F (ci := 5) (j := 2) (v := .ref (a 2)) (List.mem_append_right _ (List.mem_append_right _ (List.mem_append_right _ (List.mem_append_left _ (List.mem_of_getElem? (i := 0) rfl))))) rfl hi5 (by decide) hf98_5 rfl rfl dX10_toldOf_76 ?_
    refine q_iload_n F 2 dX10_toldOf_79 rfl ?_
    refine q_iald F (f := B 2) (List.mem_append_right _ (List.mem_append_right _ (List.mem_append_right _ (List.mem_append_left _ (List.mem_of_getElem? (i := 1) rfl))))) h rfl (by omega) (by decide) dX10_toldOf_80 ?_
    refine q_perm pf10 ?_
    refine q_perm pf10 ?_
    refine q_perm pf10 ?_
    refine q_perm pf10 ?_
    refine q_perm pf10 ?_
    refine q_perm pf10 ?_
    refine q_perm pf10 ?_
    refine q_perm pf10 ?_
    refine q_perm pf10 ?_
    refine q_perm pf10 ?_
    refine q_perm pf10 ?_
    refine q_iret F hr_ dX10_toldOf_81 (hp_ _ _ ⟨congrArg (fun z => some (Value.int z)) ?_, ?_⟩)
    · rfl
    · rfl
  · skip
    refine q_tableIn F (off := 72) (tgt := 82) dX10_toldOf_10 (by decide) (by decide) (by decide) (by decide) ?_
    refine q_aload_n F 1 dX10_toldOf_82 rfl ?_
    refine q_get F (ci := 10) (j := 2) (v := .ref (a 0)) (List.mem_append_left _ (List.mem_of_getElem? (i := 0) rfl)) rfl hi10 (by decide) hf30_10 rfl rfl dX10_toldOf_83 ?_
    refine q_get F (ci := 5) (j := 3) (v := .ref (a 3)) (List.mem_append_right _ (List.mem_append_right _ (List.mem_append_right _ (List.mem_append_left _ (List.mem_of_getElem? (i := 0) rfl))))) rfl hi5 (by decide) hf234_5 rfl rfl dX10_toldOf_86 ?_
    refine q_iload_n F 2 dX10_toldOf_89 rfl ?_
    refine q_iald F (f := B 3) (List.mem_append_right _ (List.mem_append_right _ (List.mem_append_right _ (List.mem_append_left _ (List.mem_of_getElem? (i := 2) rfl))))) h rfl (by omega) (by decide) dX10_toldOf_90 ?_
    refine q_perm pf10 ?_
    refine q_perm pf10 ?_
    refine q_perm pf10 ?_
    refine q_perm pf10 ?_
    refine q_perm pf10 ?_
    refine q_perm pf10 ?_
    refine q_perm pf10 ?_
    refine q_perm pf10 ?_
    refine q_perm pf10 ?_
    refine q_perm pf10 ?_
    refine q_perm pf10 ?_
    refine q_iret F hr_ dX10_toldOf_91 (hp_ _ _ ⟨congrArg (fun z => some (Value.int z)) ?_, ?_⟩)
    · rfl
    · rfl
  · skip
    refine q_tableIn F (off := 82) (tgt := 92) dX10_toldOf_10 (by decide) (by decide) (by decide) (by decide) ?_
    refine q_aload_n F 1 dX10_toldOf_92 rfl ?_
    refine q_get F (ci := 10) (j := 2) (v := .ref (a 0)) (List.mem_append_left _ (List.mem_of_getElem? (i := 0) rfl)) rfl hi10 (by decide) hf30_10 rfl rfl dX10_toldOf_93 ?_
    refine q_get F (ci := 5) (j := 4) (v := .ref (a 4)) (List.mem_append_right _ (List.mem_append_right _ (List.mem_append_right _ (List.mem_append_left _ (List.mem_of_getElem? (i := 0) rfl))))) rfl hi5 (by decide) hf237_5 rfl rfl dX10_toldOf_96 ?_
    refine q_iload_n F 2 dX10_toldOf_99 rfl ?_
    refine q_iald F (f := B 4) (List.mem_append_right _ (List.mem_append_right _ (List.mem_append_right _ (List.mem_append_left _ (List.mem_of_getElem? (i := 3) rfl))))) h rfl (by omega) (by decide) dX10_toldOf_100 ?_
    refine q_perm pf10 ?_
    refine q_perm pf10 ?_
    refine q_perm pf10 ?_
    refine q_perm pf10 ?_
    refine q_perm pf10 ?_
    refine q_perm pf10 ?_
    refine q_perm pf10 ?_
    refine q_perm pf10 ?_
    refine q_perm pf10 ?_
    refine q_perm pf10 ?_
    refine q_perm pf10 ?_
    refine q_iret F hr_ dX10_toldOf_101 (hp_ _ _ ⟨congrArg (fun z => some (Value.int z)) ?_, ?_⟩)
    · rfl
    · rfl
  · skip
    refine q_tableOut F (tgt := 102) dX10_toldOf_10 (by decide) (by decide) ?_
    refine q_aload_n F 1 dX10_toldOf_102 rfl ?_
    refine q_get F (ci := 10) (j := 2) (v := .ref (a 0)) (List.mem_append_left _ (List.mem_of_getElem? (i := 0) rfl)) rfl hi10 (by decide) hf30_10 rfl rfl dX10_toldOf_103 ?_
    refine q_get F (ci := 5) (j := 5) (v := .ref (a 5)) (List.mem_append_right _ (List.mem_append_right _ (List.mem_append_right _ (List.mem_append_left _ (List.mem_of_getElem? (i := 0) rfl))))) rfl hi5 (by decide) hf240_5 rfl rfl dX10_toldOf_106 ?_
    refine q_iload_n F 2 dX10_toldOf_109 rfl ?_
    refine q_iald F (f := B 5) (List.mem_append_right _ (List.mem_append_right _ (List.mem_append_right _ (List.mem_append_left _ (List.mem_of_getElem? (i := 4) rfl))))) h rfl (by omega) (by decide) dX10_toldOf_110 ?_
    refine q_perm pf10 ?_
    refine q_perm pf10 ?_
    refine q_perm pf10 ?_
    refine q_perm pf10 ?_
    refine q_perm pf10 ?_
    refine q_perm pf10 ?_
    refine q_perm pf10 ?_
    refine q_perm pf10 ?_
    refine q_perm pf10 ?_
    refine q_perm pf10 ?_
    refine q_perm pf10 ?_
    refine q_iret F hr_ dX10_toldOf_111 (hp_ _ _ ⟨congrArg (fun z => some (Value.int z)) ?_, ?_⟩)
    · rfl
    · rfl

set_option maxHeartbeats 2000000 in
set_option maxRecDepth 100000 in
theorem c_X10_goBy (l : Launch) (E : gEnv) (x : Nat) (q t a k u r kd : Nat → Nat) (T : gTown) (g : Nat → Int32) (n : Nat) (pf : Nat → Int32) (sn : Int32) (B : Nat → Nat → Int32) (kp km ku : Int32) (sn1 : Int32) (B1 : Nat → Nat → Int32) (kp1 km1 ku1 : Int32) (sn2 : Int32) (B2 : Nat → Nat → Int32) (kp2 km2 ku2 : Int32) (rg O BO P M U : Nat → Int32) (tl : va_W) (hH : isHs T tl) (hn : tN T ≤ 6) (hq : n ≤ 30) (hz : okZ (B 8)) (lw : Nat) (hl3 : lw < 3) : Cn l E yX10_goBy wsX10_goBy (rmL 5 0 0) [.ref x, .int (nI lw)] (oC x (q 0) (t 0) (a 0) (k 0) (u 0) (r 0) g ++ (pC E q n pf ++ (tC E t T ++ (nC E a (t 0) sn B ++ (kC (a 1) kp km ku ++ (nC E k (t 0) sn1 B1 ++ (kC (k 1) kp1 km1 ku1 ++ (nC E u (t 0) sn2 B2 ++ (kC (u 1) kp2 km2 ku2 ++ (rC E r (t 0) kd rg O BO ++ (ksC kd P M U ++ tl))))))))))) 0 0 (fun v w => v = none ∧ w = oC x (q 0) (t 0) (a 0) (k 0) (u 0) (r 0) g ++ (pC E q n pf ++ (tC E t T ++ (nC E a (t 0) sn B ++ (kC (a 1) kp km ku ++ (nC E k (t 0) sn1 B1 ++ (kC (k 1) kp1 km1 ku1 ++ (nC E u (t 0) sn ((laN T lw 6 (B, kp, km, ku)).1) ++ (kC (u 1) ((laN T lw 6 (B, kp, km, ku)).2.1) ((laN T lw 6 (B, kp, km, ku)).2.2.1) ((laN T lw 6 (B, kp, km, ku)).2.2.2) ++ (rC E r (t 0) kd rg O BO ++ (ksC kd P M U ++ tl))))))))))) := by
  refine Cn.of (own := RX10) (cc := cX10_goBy) (maxL := 2) (ret := none) (lv := [(0, .ref x), (1, .int (nI lw))]) (by decide) rfl rfl (Nat.le_of_ble_eq_true rfl) rfl ?_
  intro p_ e_ s_ m_ args_ below_ meth_ c_ A_ P_ hp_ F hr_ hnm_
  have hf37_10 : Cond.fieldLink RX10 37 "KeyOnStreet" (TX10 4).2.1 (TX10 4).2.2.1 ∈ wsX10_goBy := by decide +kernel
  have hi10 : ∀ w ∈ u_ws RX10 TX10 11, w ∈ wsX10_goBy := by decide +kernel
  have hf30_10 : Cond.fieldLink RX10 30 "KeyOnStreet" (TX10 2).2.1 (TX10 2).2.2.1 ∈ wsX10_goBy := by decide +kernel
  have hd_X5_copyFrom : yX5_copyFrom.cls = RX5 ∧ yX5_copyFrom.cls ≠ "java/lang/invoke/MethodHandle" ∧ yX5_copyFrom.cls ≠ "java/lang/invoke/VarHandle" ∧ (parseMethodDescriptor yX5_copyFrom.desc).map (fun d => d.parameters.length) = some 1 := by decide +kernel
  have hd_X5_letAllIn : yX5_letAllIn.cls = RX5 ∧ yX5_letAllIn.cls ≠ "java/lang/invoke/MethodHandle" ∧ yX5_letAllIn.cls ≠ "java/lang/invoke/VarHandle" ∧ (parseMethodDescriptor yX5_letAllIn.desc).map (fun d => d.parameters.length) = some 1 := by decide +kernel
  refine q_aload_n F 0 dX10_goBy_0 rfl ?_
  refine q_get F (ci := 10) (j := 4) (v := .ref (u 0)) (List.mem_append_left _ (List.mem_of_getElem? (i := 0) rfl)) rfl hi10 (by decide) hf37_10 rfl rfl dX10_goBy_1 ?_
  refine q_aload_n F 0 dX10_goBy_4 rfl ?_
  refine q_get F (ci := 10) (j := 2) (v := .ref (a 0)) (List.mem_append_left _ (List.mem_of_getElem? (i := 0) rfl)) rfl hi10 (by decide) hf30_10 rfl rfl dX10_goBy_5 ?_
  refine q_perm pf8 ?_
  refine q_perm pf8 ?_
  refine q_callV F (ci := 5) (As := [.ref (a 0)]) (rest := []) (List.mem_append_left _ (List.mem_of_getElem? (i := 0) rfl)) rfl (c_X5_copyFrom l E u t T sn2 B2 kp2 km2 ku2 (oC x (q 0) (t 0) (a 0) (k 0) (u 0) (r 0) g ++ (pC E q n pf ++ (tC E t T ++ (nC E a (t 0) sn B ++ (kC (a 1) kp km ku ++ (nC E k (t 0) sn1 B1 ++ (kC (k 1) kp1 km1 ku1 ++ (rC E r (t 0) kd rg O BO ++ (ksC kd P M U ++ tl))))))))) (isIn.r _ (isIn.r _ (isIn.l _ _))) (isHs.r _ (isHs.r _ (isHs.r _ (isHs.r _ (isHs.r _ (isHs.r _ (isHs.r _ (isHs.r _ (isHs.r _ hH))))))))) hn a (t 0) sn B kp km ku (isIn.r _ (isIn.r _ (isIn.r _ (isIn.l _ _)))) (isIn.r _ (isIn.r _ (isIn.r _ (isIn.r _ (isIn.l _ _))))) hz) (List.Perm.refl _) gX10_goBy_X5_copyFrom rfl rfl rfl hd_X5_copyFrom ⟨by decide, by decide⟩ rfl (Nat.le_of_ble_eq_true rfl) dX10_goBy_8 ⟨Nat.le_of_ble_eq_true rfl, Nat.le_of_ble_eq_true rfl⟩ (fun v_ w_ hvw => ?_)
  rw [hvw.1, hvw.2]
  clear hvw
  refine q_at (pc' := 11) (st' := []) (ws' := nC E u (t 0) sn B ++ (kC (u 1) kp km ku ++ (oC x (q 0) (t 0) (a 0) (k 0) (u 0) (r 0) g ++ (pC E q n pf ++ (tC E t T ++ (nC E a (t 0) sn B ++ (kC (a 1) kp km ku ++ (nC E k (t 0) sn1 B1 ++ (kC (k 1) kp1 km1 ku1 ++ (rC E r (t 0) kd rg O BO ++ (ksC kd P M U ++ tl))))))))))) (k' := 0) (n' := 0) rfl rfl rfl rfl rfl ?_
  refine q_aload_n F 0 dX10_goBy_11 rfl ?_
  refine q_get F (ci := 10) (j := 4) (v := .ref (u 0)) (List.mem_append_right _ (List.mem_append_right _ (List.mem_append_left _ (List.mem_of_getElem? (i := 0) rfl)))) rfl hi10 (by decide) hf37_10 rfl rfl dX10_goBy_12 ?_
  refine q_iload_n F 1 dX10_goBy_15 rfl ?_
  refine q_perm pf1 ?_
  refine q_perm pf1 ?_
  refine q_callV F (ci := 5) (As := [.int (nI lw)]) (rest := []) (List.mem_append_left _ (List.mem_of_getElem? (i := 0) rfl)) rfl (c_X5_letAllIn l E u t T sn B kp km ku (oC x (q 0) (t 0) (a 0) (k 0) (u 0) (r 0) g ++ (pC E q n pf ++ (tC E t T ++ (nC E a (t 0) sn B ++ (kC (a 1) kp km ku ++ (nC E k (t 0) sn1 B1 ++ (kC (k 1) kp1 km1 ku1 ++ (rC E r (t 0) kd rg O BO ++ (ksC kd P M U ++ tl))))))))) (isIn.r _ (isIn.r _ (isIn.l _ _))) (isHs.r _ (isHs.r _ (isHs.r _ (isHs.r _ (isHs.r _ (isHs.r _ (isHs.r _ (isHs.r _ (isHs.r _ hH))))))))) hn lw hl3) (List.Perm.refl _) gX10_goBy_X5_letAllIn rfl rfl rfl hd_X5_letAllIn ⟨by decide, by decide⟩ rfl (Nat.le_of_ble_eq_true rfl) dX10_goBy_16 ⟨Nat.le_of_ble_eq_true rfl, Nat.le_of_ble_eq_true rfl⟩ (fun v_ w_ hvw => ?_)
  rw [hvw.1, hvw.2]
  clear hvw
  refine q_at (pc' := 19) (st' := []) (ws' := nC E u (t 0) sn ((laN T lw 6 (B, kp, km, ku)).1) ++ (kC (u 1) ((laN T lw 6 (B, kp, km, ku)).2.1) ((laN T lw 6 (B, kp, km, ku)).2.2.1) ((laN T lw 6 (B, kp, km, ku)).2.2.2) ++ (oC x (q 0) (t 0) (a 0) (k 0) (u 0) (r 0) g ++ (pC E q n pf ++ (tC E t T ++ (nC E a (t 0) sn B ++ (kC (a 1) kp km ku ++ (nC E k (t 0) sn1 B1 ++ (kC (k 1) kp1 km1 ku1 ++ (rC E r (t 0) kd rg O BO ++ (ksC kd P M U ++ tl))))))))))) (k' := 0) (n' := 0) rfl rfl rfl rfl rfl ?_
  refine q_perm pf10 ?_
  refine q_perm pf10 ?_
  refine q_perm pf3 ?_
  refine q_perm pf3 ?_
  refine q_perm pf10 ?_
  refine q_perm pf10 ?_
  refine q_perm pf10 ?_
  refine q_perm pf10 ?_
  refine q_perm pf10 ?_
  refine q_perm pf10 ?_
  refine q_perm pf10 ?_
  refine q_vret F hr_ dX10_goBy_19 (hp_ _ _ ⟨rfl, ?_⟩)
  rfl

set_option maxHeartbeats 2000000 in
set_option maxRecDepth 100000 in
theorem c_X10_toldByLaw (l : Launch) (E : gEnv) (x : Nat) (q t a k u r kd : Nat → Nat) (T : gTown) (g : Nat → Int32) (n : Nat) (pf : Nat → Int32) (sn : Int32) (B : Nat → Nat → Int32) (kp km ku : Int32) (sn1 : Int32) (B1 : Nat → Nat → Int32) (kp1 km1 ku1 : Int32) (sn2 : Int32) (B2 : Nat → Nat → Int32) (kp2 km2 ku2 : Int32) (rg O BO P M U : Nat → Int32) (tl : va_W) (hH : isHs T tl) (hn : tN T ≤ 6) (hq : n ≤ 30) (j : Nat) (hj : j < 3) : Cn l E yX10_toldByLaw wsX10_toldByLaw (rmL 1 0 0) [.ref x, .int (nI j)] (oC x (q 0) (t 0) (a 0) (k 0) (u 0) (r 0) g ++ (pC E q n pf ++ (tC E t T ++ (nC E a (t 0) sn B ++ (kC (a 1) kp km ku ++ (nC E k (t 0) sn1 B1 ++ (kC (k 1) kp1 km1 ku1 ++ (nC E u (t 0) sn2 B2 ++ (kC (u 1) kp2 km2 ku2 ++ (rC E r (t 0) kd rg O BO ++ (ksC kd P M U ++ tl))))))))))) 0 0 (fun v w => v = some (.int (tbL B B2 kp2 km2 j)) ∧ w = oC x (q 0) (t 0) (a 0) (k 0) (u 0) (r 0) g ++ (pC E q n pf ++ (tC E t T ++ (nC E a (t 0) sn B ++ (kC (a 1) kp km ku ++ (nC E k (t 0) sn1 B1 ++ (kC (k 1) kp1 km1 ku1 ++ (nC E u (t 0) sn2 B2 ++ (kC (u 1) kp2 km2 ku2 ++ (rC E r (t 0) kd rg O BO ++ (ksC kd P M U ++ tl))))))))))) := by
  refine Cn.of (own := RX10) (cc := cX10_toldByLaw) (maxL := 2) (ret := (some .int)) (lv := [(0, .ref x), (1, .int (nI j))]) (by decide) rfl rfl (Nat.le_of_ble_eq_true rfl) rfl ?_
  intro p_ e_ s_ m_ args_ below_ meth_ c_ A_ P_ hp_ F hr_ hnm_
  have hf37_10 : Cond.fieldLink RX10 37 "KeyOnStreet" (TX10 4).2.1 (TX10 4).2.2.1 ∈ wsX10_toldByLaw := by decide +kernel
  have hi10 : ∀ w ∈ u_ws RX10 TX10 11, w ∈ wsX10_toldByLaw := by decide +kernel
  have hd_X5_lateOfAll : yX5_lateOfAll.cls = RX5 ∧ yX5_lateOfAll.cls ≠ "java/lang/invoke/MethodHandle" ∧ yX5_lateOfAll.cls ≠ "java/lang/invoke/VarHandle" ∧ (parseMethodDescriptor yX5_lateOfAll.desc).map (fun d => d.parameters.length) = some 0 := by decide +kernel
  have hf30_10 : Cond.fieldLink RX10 30 "KeyOnStreet" (TX10 2).2.1 (TX10 2).2.2.1 ∈ wsX10_toldByLaw := by decide +kernel
  have hf102_5 : Cond.fieldLink RX10 102 "KeyOnStreet$Night" (TX5 1).2.1 (TX5 1).2.2.1 ∈ wsX10_toldByLaw := by decide +kernel
  have hi5 : ∀ w ∈ u_ws RX5 TX5 10, w ∈ wsX10_toldByLaw := by decide +kernel
  have hf106_2 : Cond.fieldLink RX10 106 "KeyOnStreet$Key" (TX2 1).2.1 (TX2 1).2.2.1 ∈ wsX10_toldByLaw := by decide +kernel
  have hi2 : ∀ w ∈ u_ws RX2 TX2 3, w ∈ wsX10_toldByLaw := by decide +kernel
  have hf114_2 : Cond.fieldLink RX10 114 "KeyOnStreet$Key" (TX2 0).2.1 (TX2 0).2.2.1 ∈ wsX10_toldByLaw := by decide +kernel
  refine q_iload_n F 1 dX10_toldByLaw_0 rfl ?_
  rcases (show j = 0 ∨ j = 1 ∨ j = 2 by omega) with rfl | rfl | rfl
  · skip
    refine q_lookup F (off := 27) (tgt := 28) dX10_toldByLaw_1 (by decide) (by decide) (by decide) ?_
    refine q_aload_n F 0 dX10_toldByLaw_28 rfl ?_
    refine q_get F (ci := 10) (j := 4) (v := .ref (u 0)) (List.mem_append_left _ (List.mem_of_getElem? (i := 0) rfl)) rfl hi10 (by decide) hf37_10 rfl rfl dX10_toldByLaw_29 ?_
    refine q_callV F (ci := 5) (As := []) (rest := []) (List.mem_append_right _ (List.mem_append_right _ (List.mem_append_right _ (List.mem_append_right _ (List.mem_append_right _ (List.mem_append_right _ (List.mem_append_right _ (List.mem_append_left _ (List.mem_of_getElem? (i := 0) rfl))))))))) rfl (c_X5_lateOfAll l E u t T sn2 B2 kp2 km2 ku2 (oC x (q 0) (t 0) (a 0) (k 0) (u 0) (r 0) g ++ (pC E q n pf ++ (tC E t T ++ (nC E a (t 0) sn B ++ (kC (a 1) kp km ku ++ (nC E k (t 0) sn1 B1 ++ (kC (k 1) kp1 km1 ku1 ++ (nC E u (t 0) sn2 B2 ++ (kC (u 1) kp2 km2 ku2 ++ (rC E r (t 0) kd rg O BO ++ (ksC kd P M U ++ tl))))))))))) (isIn.r _ (isIn.r _ (isIn.r _ (isIn.r _ (isIn.r _ (isIn.r _ (isIn.r _ (isIn.l _ _)))))))) (isIn.r _ (isIn.r _ (isIn.r _ (isIn.r _ (isIn.r _ (isIn.r _ (isIn.r _ (isIn.r _ (isIn.l _ _))))))))) (isIn.r _ (isIn.r _ (isIn.l _ _))) (isHs.r _ (isHs.r _ (isHs.r _ (isHs.r _ (isHs.r _ (isHs.r _ (isHs.r _ (isHs.r _ (isHs.r _ (isHs.r _ (isHs.r _ hH))))))))))) hn ) (List.Perm.refl _) gX10_toldByLaw_X5_lateOfAll rfl rfl rfl hd_X5_lateOfAll ⟨by decide, by decide⟩ rfl (Nat.le_of_ble_eq_true rfl) dX10_toldByLaw_32 ⟨Nat.le_of_ble_eq_true rfl, Nat.le_of_ble_eq_true rfl⟩ (fun v_ w_ hvw => ?_)
    rw [hvw.1, hvw.2]
    clear hvw
    refine q_at (pc' := 35) (st' := [.int (sumB (B2 4) 6)]) (ws' := oC x (q 0) (t 0) (a 0) (k 0) (u 0) (r 0) g ++ (pC E q n pf ++ (tC E t T ++ (nC E a (t 0) sn B ++ (kC (a 1) kp km ku ++ (nC E k (t 0) sn1 B1 ++ (kC (k 1) kp1 km1 ku1 ++ (nC E u (t 0) sn2 B2 ++ (kC (u 1) kp2 km2 ku2 ++ (rC E r (t 0) kd rg O BO ++ (ksC kd P M U ++ tl))))))))))) (k' := 0) (n' := 0) rfl rfl rfl rfl rfl ?_
    refine q_aload_n F 0 dX10_toldByLaw_35 rfl ?_
    refine q_get F (ci := 10) (j := 2) (v := .ref (a 0)) (List.mem_append_left _ (List.mem_of_getElem? (i := 0) rfl)) rfl hi10 (by decide) hf30_10 rfl rfl dX10_toldByLaw_36 ?_
    refine q_callV F (ci := 5) (As := []) (rest := [.int (sumB (B2 4) 6)]) (List.mem_append_right _ (List.mem_append_right _ (List.mem_append_right _ (List.mem_append_left _ (List.mem_of_getElem? (i := 0) rfl))))) rfl (c_X5_lateOfAll l E a t T sn B kp km ku (oC x (q 0) (t 0) (a 0) (k 0) (u 0) (r 0) g ++ (pC E q n pf ++ (tC E t T ++ (nC E a (t 0) sn B ++ (kC (a 1) kp km ku ++ (nC E k (t 0) sn1 B1 ++ (kC (k 1) kp1 km1 ku1 ++ (nC E u (t 0) sn2 B2 ++ (kC (u 1) kp2 km2 ku2 ++ (rC E r (t 0) kd rg O BO ++ (ksC kd P M U ++ tl))))))))))) (isIn.r _ (isIn.r _ (isIn.r _ (isIn.l _ _)))) (isIn.r _ (isIn.r _ (isIn.r _ (isIn.r _ (isIn.l _ _))))) (isIn.r _ (isIn.r _ (isIn.l _ _))) (isHs.r _ (isHs.r _ (isHs.r _ (isHs.r _ (isHs.r _ (isHs.r _ (isHs.r _ (isHs.r _ (isHs.r _ (isHs.r _ (isHs.r _ hH))))))))))) hn ) (List.Perm.refl _) gX10_toldByLaw_X5_lateOfAll rfl rfl rfl hd_X5_lateOfAll ⟨by decide, by decide⟩ rfl (Nat.le_of_ble_eq_true rfl) dX10_toldByLaw_39 ⟨Nat.le_of_ble_eq_true rfl, Nat.le_of_ble_eq_true rfl⟩ (fun v_ w_ hvw => ?_)
    rw [hvw.1, hvw.2]
    clear hvw
    refine q_at (pc' := 42) (st' := [.int (sumB (B 4) 6), .int (sumB (B2 4) 6)]) (ws' := oC x (q 0) (t 0) (a 0) (k 0) (u 0) (r 0) g ++ (pC E q n pf ++ (tC E t T ++ (nC E a (t 0) sn B ++ (kC (a 1) kp km ku ++ (nC E k (t 0) sn1 B1 ++ (kC (k 1) kp1 km1 ku1 ++ (nC E u (t 0) sn2 B2 ++ (kC (u 1) kp2 km2 ku2 ++ (rC E r (t 0) kd rg O BO ++ (ksC kd P M U ++ tl))))))))))) (k' := 0) (n' := 0) rfl rfl rfl rfl rfl ?_
    refine q_isub F dX10_toldByLaw_42 ?_
    refine q_perm pf10 ?_
    refine q_perm pf10 ?_
    refine q_perm pf10 ?_
    refine q_perm pf10 ?_
    refine q_perm pf10 ?_
    refine q_perm pf10 ?_
    refine q_perm pf10 ?_
    refine q_perm pf10 ?_
    refine q_perm pf10 ?_
    refine q_perm pf10 ?_
    refine q_perm pf10 ?_
    refine q_iret F hr_ dX10_toldByLaw_43 (hp_ _ _ ⟨congrArg (fun z => some (Value.int z)) ?_, ?_⟩)
    · rfl
    · rfl
  · skip
    refine q_lookup F (off := 43) (tgt := 44) dX10_toldByLaw_1 (by decide) (by decide) (by decide) ?_
    refine q_aload_n F 0 dX10_toldByLaw_44 rfl ?_
    refine q_get F (ci := 10) (j := 4) (v := .ref (u 0)) (List.mem_append_left _ (List.mem_of_getElem? (i := 0) rfl)) rfl hi10 (by decide) hf37_10 rfl rfl dX10_toldByLaw_45 ?_
    refine q_get F (ci := 5) (j := 1) (v := .ref (u 1)) (List.mem_append_right _ (List.mem_append_right _ (List.mem_append_right _ (List.mem_append_right _ (List.mem_append_right _ (List.mem_append_right _ (List.mem_append_right _ (List.mem_append_left _ (List.mem_of_getElem? (i := 0) rfl))))))))) rfl hi5 (by decide) hf102_5 rfl rfl dX10_toldByLaw_48 ?_
    refine q_get F (ci := 2) (j := 1) (v := .int km2) (List.mem_append_right _ (List.mem_append_right _ (List.mem_append_right _ (List.mem_append_right _ (List.mem_append_right _ (List.mem_append_right _ (List.mem_append_right _ (List.mem_append_right _ (List.mem_append_left _ (List.mem_of_getElem? (i := 0) rfl)))))))))) rfl hi2 (by decide) hf106_2 rfl rfl dX10_toldByLaw_51 ?_
    refine q_perm pf10 ?_
    refine q_perm pf10 ?_
    refine q_perm pf10 ?_
    refine q_perm pf10 ?_
    refine q_perm pf10 ?_
    refine q_perm pf10 ?_
    refine q_perm pf10 ?_
    refine q_perm pf10 ?_
    refine q_perm pf10 ?_
    refine q_perm pf10 ?_
    refine q_perm pf10 ?_
    refine q_iret F hr_ dX10_toldByLaw_54 (hp_ _ _ ⟨congrArg (fun z => some (Value.int z)) ?_, ?_⟩)
    · rfl
    · rfl
  · skip
    refine q_lookup F (off := 54) (tgt := 55) dX10_toldByLaw_1 (by decide) (by decide) (by decide) ?_
    refine q_aload_n F 0 dX10_toldByLaw_55 rfl ?_
    refine q_get F (ci := 10) (j := 4) (v := .ref (u 0)) (List.mem_append_left _ (List.mem_of_getElem? (i := 0) rfl)) rfl hi10 (by decide) hf37_10 rfl rfl dX10_toldByLaw_56 ?_
    refine q_get F (ci := 5) (j := 1) (v := .ref (u 1)) (List.mem_append_right _ (List.mem_append_right _ (List.mem_append_right _ (List.mem_append_right _ (List.mem_append_right _ (List.mem_append_right _ (List.mem_append_right _ (List.mem_append_left _ (List.mem_of_getElem? (i := 0) rfl))))))))) rfl hi5 (by decide) hf102_5 rfl rfl dX10_toldByLaw_59 ?_
    refine q_get F (ci := 2) (j := 0) (v := .int kp2) (List.mem_append_right _ (List.mem_append_right _ (List.mem_append_right _ (List.mem_append_right _ (List.mem_append_right _ (List.mem_append_right _ (List.mem_append_right _ (List.mem_append_right _ (List.mem_append_left _ (List.mem_of_getElem? (i := 0) rfl)))))))))) rfl hi2 (by decide) hf114_2 rfl rfl dX10_toldByLaw_62 ?_
    refine q_perm pf10 ?_
    refine q_perm pf10 ?_
    refine q_perm pf10 ?_
    refine q_perm pf10 ?_
    refine q_perm pf10 ?_
    refine q_perm pf10 ?_
    refine q_perm pf10 ?_
    refine q_perm pf10 ?_
    refine q_perm pf10 ?_
    refine q_perm pf10 ?_
    refine q_perm pf10 ?_
    refine q_iret F hr_ dX10_toldByLaw_65 (hp_ _ _ ⟨congrArg (fun z => some (Value.int z)) ?_, ?_⟩)
    · rfl
    · rfl

set_option maxHeartbeats 2000000 in
set_option maxRecDepth 100000 in
theorem c_X10_toldOfBest (l : Launch) (E : gEnv) (x : Nat) (q t a k u r kd : Nat → Nat) (T : gTown) (g : Nat → Int32) (n : Nat) (pf : Nat → Int32) (sn : Int32) (B : Nat → Nat → Int32) (kp km ku : Int32) (sn1 : Int32) (B1 : Nat → Nat → Int32) (kp1 km1 ku1 : Int32) (sn2 : Int32) (B2 : Nat → Nat → Int32) (kp2 km2 ku2 : Int32) (rg O BO P M U : Nat → Int32) (tl : va_W) (hH : isHs T tl) (hn : tN T ≤ 6) (hq : n ≤ 30) (j : Nat) (hj : j = 0 ∨ j = 1 ∨ ∃ i, i < 6 ∧ j = 10 + i) : Cn l E yX10_toldOfBest wsX10_toldOfBest (rmL 1 0 0) [.ref x, .int (nI j)] (oC x (q 0) (t 0) (a 0) (k 0) (u 0) (r 0) g ++ (pC E q n pf ++ (tC E t T ++ (nC E a (t 0) sn B ++ (kC (a 1) kp km ku ++ (nC E k (t 0) sn1 B1 ++ (kC (k 1) kp1 km1 ku1 ++ (nC E u (t 0) sn2 B2 ++ (kC (u 1) kp2 km2 ku2 ++ (rC E r (t 0) kd rg O BO ++ (ksC kd P M U ++ tl))))))))))) 0 0 (fun v w => v = some (.int (bsC (rg 7, rg 8, rg 4, BO) j)) ∧ w = oC x (q 0) (t 0) (a 0) (k 0) (u 0) (r 0) g ++ (pC E q n pf ++ (tC E t T ++ (nC E a (t 0) sn B ++ (kC (a 1) kp km ku ++ (nC E k (t 0) sn1 B1 ++ (kC (k 1) kp1 km1 ku1 ++ (nC E u (t 0) sn2 B2 ++ (kC (u 1) kp2 km2 ku2 ++ (rC E r (t 0) kd rg O BO ++ (ksC kd P M U ++ tl))))))))))) := by
  refine Cn.of (own := RX10) (cc := cX10_toldOfBest) (maxL := 2) (ret := (some .int)) (lv := [(0, .ref x), (1, .int (nI j))]) (by decide) rfl rfl (Nat.le_of_ble_eq_true rfl) rfl ?_
  intro p_ e_ s_ m_ args_ below_ meth_ c_ A_ P_ hp_ F hr_ hnm_
  have hf43_10 : Cond.fieldLink RX10 43 "KeyOnStreet" (TX10 5).2.1 (TX10 5).2.2.1 ∈ wsX10_toldOfBest := by decide +kernel
  have hi10 : ∀ w ∈ u_ws RX10 TX10 11, w ∈ wsX10_toldOfBest := by decide +kernel
  have hf159_7 : Cond.fieldLink RX10 159 "KeyOnStreet$Rounds" (TX7 7).2.1 (TX7 7).2.2.1 ∈ wsX10_toldOfBest := by decide +kernel
  have hi7 : ∀ w ∈ u_ws RX7 TX7 9, w ∈ wsX10_toldOfBest := by decide +kernel
  have hf246_7 : Cond.fieldLink RX10 246 "KeyOnStreet$Rounds" (TX7 8).2.1 (TX7 8).2.2.1 ∈ wsX10_toldOfBest := by decide +kernel
  have hd_X7_bestHouse : yX7_bestHouse.cls = RX7 ∧ yX7_bestHouse.cls ≠ "java/lang/invoke/MethodHandle" ∧ yX7_bestHouse.cls ≠ "java/lang/invoke/VarHandle" ∧ (parseMethodDescriptor yX7_bestHouse.desc).map (fun d => d.parameters.length) = some 1 := by decide +kernel
  refine q_iload_n F 1 dX10_toldOfBest_0 rfl ?_
  rcases hj with rfl | rfl | ⟨i, hi, rfl⟩
  · skip
    refine q_lookup F (off := 27) (tgt := 28) dX10_toldOfBest_1 (by decide) (by decide) (by decide) ?_
    refine q_aload_n F 0 dX10_toldOfBest_28 rfl ?_
    refine q_get F (ci := 10) (j := 5) (v := .ref (r 0)) (List.mem_append_left _ (List.mem_of_getElem? (i := 0) rfl)) rfl hi10 (by decide) hf43_10 rfl rfl dX10_toldOfBest_29 ?_
    refine q_get F (ci := 7) (j := 7) (v := .int (rg 7)) (List.mem_append_right _ (List.mem_append_right _ (List.mem_append_right _ (List.mem_append_right _ (List.mem_append_right _ (List.mem_append_right _ (List.mem_append_right _ (List.mem_append_right _ (List.mem_append_right _ (List.mem_append_left _ (List.mem_of_getElem? (i := 0) rfl))))))))))) rfl hi7 (by decide) hf159_7 rfl rfl dX10_toldOfBest_32 ?_
    refine q_perm pf10 ?_
    refine q_perm pf10 ?_
    refine q_perm pf10 ?_
    refine q_perm pf10 ?_
    refine q_perm pf10 ?_
    refine q_perm pf10 ?_
    refine q_perm pf10 ?_
    refine q_perm pf10 ?_
    refine q_perm pf10 ?_
    refine q_perm pf10 ?_
    refine q_perm pf10 ?_
    refine q_iret F hr_ dX10_toldOfBest_35 (hp_ _ _ ⟨congrArg (fun z => some (Value.int z)) ?_, ?_⟩)
    · rfl
    · rfl
  · skip
    refine q_lookup F (off := 35) (tgt := 36) dX10_toldOfBest_1 (by decide) (by decide) (by decide) ?_
    refine q_aload_n F 0 dX10_toldOfBest_36 rfl ?_
    refine q_get F (ci := 10) (j := 5) (v := .ref (r 0)) (List.mem_append_left _ (List.mem_of_getElem? (i := 0) rfl)) rfl hi10 (by decide) hf43_10 rfl rfl dX10_toldOfBest_37 ?_
    refine q_get F (ci := 7) (j := 8) (v := .int (rg 8)) (List.mem_append_right _ (List.mem_append_right _ (List.mem_append_right _ (List.mem_append_right _ (List.mem_append_right _ (List.mem_append_right _ (List.mem_append_right _ (List.mem_append_right _ (List.mem_append_right _ (List.mem_append_left _ (List.mem_of_getElem? (i := 0) rfl))))))))))) rfl hi7 (by decide) hf246_7 rfl rfl dX10_toldOfBest_40 ?_
    refine q_perm pf10 ?_
    refine q_perm pf10 ?_
    refine q_perm pf10 ?_
    refine q_perm pf10 ?_
    refine q_perm pf10 ?_
    refine q_perm pf10 ?_
    refine q_perm pf10 ?_
    refine q_perm pf10 ?_
    refine q_perm pf10 ?_
    refine q_perm pf10 ?_
    refine q_perm pf10 ?_
    refine q_iret F hr_ dX10_toldOfBest_43 (hp_ _ _ ⟨congrArg (fun z => some (Value.int z)) ?_, ?_⟩)
    · rfl
    · rfl
  · skip
    refine q_lookup F (off := 43) (tgt := 44) dX10_toldOfBest_1 (by decide) (sw_10 hi) (by decide) ?_
    refine q_aload_n F 0 dX10_toldOfBest_44 rfl ?_
    refine q_get F (ci := 10) (j := 5) (v := .ref (r 0)) (List.mem_append_left _ (List.mem_of_getElem? (i := 0) rfl)) rfl hi10 (by decide) hf43_10 rfl rfl dX10_toldOfBest_45 ?_
    refine q_iload_n F 1 dX10_toldOfBest_48 rfl ?_
    refine q_bipush F dX10_toldOfBest_49 (v := nI 10) (by decide) ?_
    refine q_isub F dX10_toldOfBest_51 ?_
    refine q_toi (nI i) (nI_sub10 i) ?_
    refine q_callV F (ci := 7) (As := [.int (nI i)]) (rest := []) (List.mem_append_right _ (List.mem_append_right _ (List.mem_append_right _ (List.mem_append_right _ (List.mem_append_right _ (List.mem_append_right _ (List.mem_append_right _ (List.mem_append_right _ (List.mem_append_right _ (List.mem_append_left _ (List.mem_of_getElem? (i := 0) rfl))))))))))) rfl (c_X7_bestHouse l E r (t 0) kd rg O BO (oC x (q 0) (t 0) (a 0) (k 0) (u 0) (r 0) g ++ (pC E q n pf ++ (tC E t T ++ (nC E a (t 0) sn B ++ (kC (a 1) kp km ku ++ (nC E k (t 0) sn1 B1 ++ (kC (k 1) kp1 km1 ku1 ++ (nC E u (t 0) sn2 B2 ++ (kC (u 1) kp2 km2 ku2 ++ (rC E r (t 0) kd rg O BO ++ (ksC kd P M U ++ tl))))))))))) (isIn.r _ (isIn.r _ (isIn.r _ (isIn.r _ (isIn.r _ (isIn.r _ (isIn.r _ (isIn.r _ (isIn.r _ (isIn.l _ _)))))))))) i (by omega)) (List.Perm.refl _) gX10_toldOfBest_X7_bestHouse rfl rfl rfl hd_X7_bestHouse ⟨by decide, by decide⟩ rfl (Nat.le_of_ble_eq_true rfl) dX10_toldOfBest_52 ⟨Nat.le_of_ble_eq_true rfl, Nat.le_of_ble_eq_true rfl⟩ (fun v_ w_ hvw => ?_)
    rw [hvw.1, hvw.2]
    clear hvw
    refine q_at (pc' := 55) (st' := [.int (if rg 4 ≤ nI i then (-1) else BO i)]) (ws' := oC x (q 0) (t 0) (a 0) (k 0) (u 0) (r 0) g ++ (pC E q n pf ++ (tC E t T ++ (nC E a (t 0) sn B ++ (kC (a 1) kp km ku ++ (nC E k (t 0) sn1 B1 ++ (kC (k 1) kp1 km1 ku1 ++ (nC E u (t 0) sn2 B2 ++ (kC (u 1) kp2 km2 ku2 ++ (rC E r (t 0) kd rg O BO ++ (ksC kd P M U ++ tl))))))))))) (k' := 0) (n' := 0) rfl rfl rfl rfl rfl ?_
    refine q_perm pf10 ?_
    refine q_perm pf10 ?_
    refine q_perm pf10 ?_
    refine q_perm pf10 ?_
    refine q_perm pf10 ?_
    refine q_perm pf10 ?_
    refine q_perm pf10 ?_
    refine q_perm pf10 ?_
    refine q_perm pf10 ?_
    refine q_perm pf10 ?_
    refine q_perm pf10 ?_
    refine q_iret F hr_ dX10_toldOfBest_55 (hp_ _ _ ⟨congrArg (fun z => some (Value.int z)) ?_, ?_⟩)
    · exact (bsC_10 (rg 7, rg 8, rg 4, BO) i).symm
    · rfl
