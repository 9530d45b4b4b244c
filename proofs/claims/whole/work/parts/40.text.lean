/-! rows over the text "hmiwl"; new objects as raw blocks -/
section TXT
variable {p : Program} {l : Launch} {e : Env} {R : Room} {s : State} {m : MethodId} {args : Array Value} {below : List Frame} {meth : Method} {c : Code} {Q : State → Prop} {E : gEnv} {A : Nat → Prop} {nL : Nat} {cc : ByteArray} {own : String} {Ts : List Cond} {pc : Nat} {lv lv' : List (Nat × Value)} {st : List Value} {ws ws' wc : va_W} {k n : Nat}
theorem q_ldcS (F : gOK p s m args meth c cc nL RX6 Ts E A) (d : decode cc pc = .ok (.ldc 23, 2)) (kk : gW p l e R s m args below meth c E A nL Q (pc + 2) lv (.ref (E.2.2.1 0) :: st) ws k n) : gW p l e R s m args below meth c E A nL Q pc lv st ws k n := fun H locs ls hP hD hS hl => va_ldcS F.1 F.2.1 F.2.2.2.1 F.2.2.2.2.2.2.2.2.2.1 d (kk H locs ls hP hD hS hl)
theorem q_getsZ (F : gOK p s m args meth c cc nL own Ts E A) {index : Nat} (h : Cond.fieldLink own index "java/lang/String" "COMPACT_STRINGS" "Z" ∈ Ts) (d : decode cc pc = .ok (.getstatic index, 3)) (kk : gW p l e R s m args below meth c E A nL Q (pc + 3) lv (.int (nI 1) :: st) ws k n) : gW p l e R s m args below meth c E A nL Q pc lv st ws k n := fun H locs ls hP hD hS hl => va_gets F.1 F.2.1 F.2.2.2.2.2.2.2.2.2.2.2 hS F.2.2.2.1 (F.2.2.2.2.1 _ h) (fun _ h => h) d (kk H locs ls hP hD hS hl)
theorem q_getSc (F : gOK p s m args meth c cc nL own Ts E A) {index : Nat} (h : Cond.fieldLink own index "java/lang/String" "coder" "B" ∈ Ts) (d : decode cc pc = .ok (.getfield index, 3)) (kk : gW p l e R s m args below meth c E A nL Q (pc + 3) lv (.int (nI 0) :: st) ws k n) : gW p l e R s m args below meth c E A nL Q pc lv (.ref (E.2.2.1 0) :: st) ws k n := fun H locs ls hP hD hS hl => vk_getf F.1 F.2.1 (F.2.2.2.2.2.2.2.2.2.2.1.1 0 (by decide)).2.1 hS F.2.2.2.1 (F.2.2.2.2.1 _ h) (fun _ h => h) d (kk H locs ls hP hD hS hl)
theorem q_getSv (F : gOK p s m args meth c cc nL own Ts E A) {index : Nat} (h : Cond.fieldLink own index "java/lang/String" "value" "[B" ∈ Ts) (d : decode cc pc = .ok (.getfield index, 3)) (kk : gW p l e R s m args below meth c E A nL Q (pc + 3) lv (.ref (E.2.2.2 0) :: st) ws k n) : gW p l e R s m args below meth c E A nL Q pc lv (.ref (E.2.2.1 0) :: st) ws k n := fun H locs ls hP hD hS hl => vk_getf F.1 F.2.1 (F.2.2.2.2.2.2.2.2.2.2.1.1 0 (by decide)).2.2.1 hS F.2.2.2.1 (F.2.2.2.2.1 _ h) (fun _ h => h) d (kk H locs ls hP hD hS hl)
theorem q_slen (F : gOK p s m args meth c cc nL own Ts E A) (d : decode cc pc = .ok (.arraylength, 1)) (kk : gW p l e R s m args below meth c E A nL Q (pc + 1) lv (.int (nI 5) :: st) ws k n) : gW p l e R s m args below meth c E A nL Q pc lv (.ref (E.2.2.2 0) :: st) ws k n := fun H locs ls hP hD hS hl => va_tlen F.1 F.2.1 (F.2.2.2.2.2.2.2.2.2.2.1.1 0 (by decide)).2.2.2 hS rfl d (kk H locs ls hP hD hS hl)
theorem q_sbld (F : gOK p s m args meth c cc nL own Ts E A) (j : Nat) {v : Int32} (hj : j < 5) (hv : ([104, 109, 105, 119, 108] : List Int32).getD j 0 = v) (d : decode cc pc = .ok (.baload, 1)) (kk : gW p l e R s m args below meth c E A nL Q (pc + 1) lv (.int v :: st) ws k n) : gW p l e R s m args below meth c E A nL Q pc lv (.int (nI j) :: .ref (E.2.2.2 0) :: st) ws k n := fun H locs ls hP hD hS hl => va_tb F.1 F.2.1 (F.2.2.2.2.2.2.2.2.2.2.1.1 0 (by decide)).2.2.2 hS (vp_in_nI hj (by decide)) (v := .int v) (by rw [nI_clamp (by omega)]; exact congrArg Value.int hv) d (kk H locs ls hP hD hS hl)
theorem q_callK (F : gOK p s m args meth c cc nL own Ts E A) {y : MethodName} {wy wy' : List Cond} {rm : Room} {As rest : List Value} {mc ms maxL index : Nat} {P : Option Value → va_W → Prop} {bytes : ByteArray} {ret : Option FieldType} (hM : Cn l E y wy rm (.ref (E.2.2.1 0) :: As) wc mc ms P) (pm : ws.Perm wc) (hG : GoodIn Ts (wsV own index RJ0 y wy)) (hw : wy = Cond.code y bytes maxL ret :: wy') (hrc : rm.cells = mc) (hrs : rm.slots = ms) (hd : y.cls = RJ0 ∧ y.cls ≠ "java/lang/invoke/MethodHandle" ∧ y.cls ≠ "java/lang/invoke/VarHandle" ∧ (parseMethodDescriptor y.desc).map (fun d => d.parameters.length) = some As.length) (hR : rm.frames + 1 ≤ R.frames ∧ 8 + (maxL + 11) + rm.locals ≤ R.locals) (hst : st = As.reverse ++ .ref (E.2.2.1 0) :: rest) (hsum : (rest.map fun v => v.category).sum ≤ 8) (d : decode cc pc = .ok (.invokevirtual index, 3)) (hf : k + mc ≤ R.cells ∧ n + ms ≤ R.slots) (kk : ∀ (v : Option Value) (ws' : va_W), P v ws' → gW p l e R s m args below meth c E A nL Q (pc + 3) lv (v.toList ++ rest) ws' (k + mc) (n + ms)) : gW p l e R s m args below meth c E A nL Q pc lv st ws k n := by
  intro H locs ls hP hD hS hl
  subst hst
  exact q_after F hP hD hS hl pm (va_runV ⟨F.1, F.2.1, F.2.2.1, F.2.2.2.1, F.2.2.2.2.1⟩ (hM H.size) (cwV As.length F.2.2.2.2.1 hG hw hrc hrs hd hR) ⟨gP.blind, vk_recv F.2.2.2.2.2.2.2.2.2.2.1 (by decide) hS, q_pre F hP hD hS pm _⟩ rfl rfl hl.1 rfl (lv_room hsum) d hf) kk
end TXT
def oV (q ci : Nat) (vs : List Value) : va_W := [(q, .inr (ci, vs))]
def aI (E : gEnv) (q N : Nat) (f : Nat → Int32) : va_W := [(q, .inl (E.2.1 0, N, .inl f))]
def aZ (E : gEnv) (q N : Nat) (f : Nat → Int32) : va_W := [(q, .inl (E.2.1 1, N, .inl f))]
def aR (E : gEnv) (t q N : Nat) (f : Nat → Option Nat) : va_W := [(q, .inl (E.2.1 t, N, rfA f))]
theorem kbF_c {n : Nat} (hn : n < 127) (h0 : n ≠ 104) (h1 : n ≠ 109) (h2 : n ≠ 105) (h3 : n ≠ 119) (h4 : n ≠ 108) : kbF (nI n) = (-1) := by
  have e : ∀ k : Nat, k < 127 → n ≠ k → ¬ nI n = nI k := fun k hk h z => h ((nI_eq (by omega) (by omega)).mp z)
  unfold kbF
  rw [if_neg (e 104 (by decide) h0), if_neg (e 109 (by decide) h1), if_neg (e 105 (by decide) h2), if_neg (e 119 (by decide) h3), if_neg (e 108 (by decide) h4)]
theorem i2b_n : ∀ n : Fin 127, (nI n.val).toInt8.toInt32 = nI n.val := by decide +kernel
theorem i2c_n : ∀ n : Fin 127, ((nI n.val).toUInt32 % 65536).toInt32 = nI n.val := by decide +kernel
theorem kbF_i {k : Nat} {x : Int32} (hk : k < 5) (h : kbF x = nI k) : x = nI (([104, 109, 105, 119, 108] : List Nat).getD k 0) := by
  unfold kbF at h
  have e : ∀ a : Nat, a < 5 → nI a = nI k → a = k := fun a ha z => (nI_eq (by omega) (by omega)).mp z
  by_cases h0 : x = nI 104
  · rw [if_pos h0] at h; rw [← e 0 (by decide) h]; exact h0
  · rw [if_neg h0] at h
    by_cases h1 : x = nI 109
    · rw [if_pos h1] at h; rw [← e 1 (by decide) h]; exact h1
    · rw [if_neg h1] at h
      by_cases h2 : x = nI 105
      · rw [if_pos h2] at h; rw [← e 2 (by decide) h]; exact h2
      · rw [if_neg h2] at h
        by_cases h3 : x = nI 119
        · rw [if_pos h3] at h; rw [← e 3 (by decide) h]; exact h3
        · rw [if_neg h3] at h
          by_cases h4 : x = nI 108
          · rw [if_pos h4] at h; rw [← e 4 (by decide) h]; exact h4
          · rw [if_neg h4] at h; exact absurd h.symm (nI_m1 (by omega))
/-! the page's letters -/
theorem gdF_0 {k : Nat} {c : Int32} (h : k % 5 = 0) : gdF k c = !decide (kbF c = (-1)) := by unfold gdF; rw [h]; rfl
theorem gdF_1 {k : Nat} {c : Int32} (h : k % 5 = 1) : gdF k c = inI (c - nI 48) (nI 0) (nI 9) := by unfold gdF; rw [h]; rfl
theorem gdF_2 {k : Nat} {c : Int32} (h : k % 5 = 2) : gdF k c = inI (c - nI 48) (nI 1) (nI 9) := by unfold gdF; rw [h]; rfl
theorem gdF_3 {k : Nat} {c : Int32} (h : k % 5 = 3) : gdF k c = inI (c - nI 48) (nI 1) (nI 9) := by unfold gdF; rw [h]; rfl
theorem gdF_4 {k : Nat} {c : Int32} (h : k % 5 = 4) : gdF k c = (decide (c = nI 44) && decide (k < 29)) := by unfold gdF; rw [h]; rfl
theorem kbF_neg {x : Int32} (h : kbF x < 0) : kbF x = (-1) := by
  unfold kbF at h ⊢
  by_cases h0 : x = nI 104
  · rw [if_pos h0] at h; exact absurd h (by decide)
  · rw [if_neg h0] at h ⊢
    by_cases h1 : x = nI 109
    · rw [if_pos h1] at h; exact absurd h (by decide)
    · rw [if_neg h1] at h ⊢
      by_cases h2 : x = nI 105
      · rw [if_pos h2] at h; exact absurd h (by decide)
      · rw [if_neg h2] at h ⊢
        by_cases h3 : x = nI 119
        · rw [if_pos h3] at h; exact absurd h (by decide)
        · rw [if_neg h3] at h ⊢
          by_cases h4 : x = nI 108
          · rw [if_pos h4] at h; exact absurd h (by decide)
          · rw [if_neg h4]
theorem dg09f : ∀ n : Fin 127, inI (nI n.val - nI 48) (nI 0) (nI 9) = decide (48 ≤ n.val ∧ n.val ≤ 57) := by decide +kernel
theorem dg19f : ∀ n : Fin 127, inI (nI n.val - nI 48) (nI 1) (nI 9) = decide (49 ≤ n.val ∧ n.val ≤ 57) := by decide +kernel
theorem dg09 {n : Nat} (hn : n < 127) : inI (nI n - nI 48) (nI 0) (nI 9) = decide (48 ≤ n ∧ n ≤ 57) := dg09f ⟨n, hn⟩
theorem dg19 {n : Nat} (hn : n < 127) : inI (nI n - nI 48) (nI 1) (nI 9) = decide (49 ≤ n ∧ n ≤ 57) := dg19f ⟨n, hn⟩
theorem eq44 {n : Nat} (hn : n < 127) : decide (nI n = nI 44) = decide (n = 44) := by
  by_cases h : n = 44
  · subst h; rfl
  · rw [decide_eq_false h, decide_eq_false (fun z => h ((nI_eq (by omega) (by omega)).mp z))]
theorem ftF_n (g : Nat → Int32) (n : Nat) : ∀ m, ftF g n m n = n
  | 0 => rfl
  | m + 1 => by rw [ftF, if_neg (fun z => absurd z.1 (Nat.lt_irrefl n))]
/-! the town is read -/
def tD (E : gEnv) (t : Nat → Nat) (rf : Nat → Option Nat) (nh mw : Int32) : va_W := [(t 0, .inr (8, [.ref (t 1), .ref (t 2), .int nh, .int mw])), (t 1, .inl (E.2.1 2, 6, rfA rf)), (t 2, .inr (0, [.int (nI 0), .int (nI 1), .int (nI 1)]))]
def rdR (T : gTown) (n : Nat) (ad : Nat → Nat) (i : Nat) : Nat → Option Nat := fun j => if j < i then (if j < n then some (ad j) else none) else tR T j
theorem rdR_0 (T : gTown) (n : Nat) (ad : Nat → Nat) : rdR T n ad 0 = tR T := funext fun j => by simp [rdR]
theorem rdR_s {T : gTown} {n : Nat} {ad : Nat → Nat} {i q : Nat} (h : i < n) : va_up (rdR T n ad i) i (some q) = rdR T n (va_up ad i q) (i + 1) := funext fun j => by
  by_cases e : j = i
  · subst e; simp [rdR, va_up, h]
  · by_cases e2 : j < i
    · simp [rdR, va_up, e, e2, show j < i + 1 by omega]
    · simp [rdR, va_up, e, e2, show ¬ j < i + 1 by omega]
theorem rdR_n {T : gTown} {n : Nat} {ad : Nat → Nat} {i : Nat} (h : ¬ i < n) : va_up (rdR T n ad i) i none = rdR T n ad (i + 1) := funext fun j => by
  by_cases e : j = i
  · subst e; simp [rdR, va_up, h]
  · by_cases e2 : j < i
    · simp [rdR, va_up, e, e2, show j < i + 1 by omega]
    · simp [rdR, va_up, e, e2, show ¬ j < i + 1 by omega]
/-- the town that a page tells -/
def twT (f : Nat → Int32) (kf : Nat → Nat) (n : Nat) (ad : Nat → Nat) : gTown := (n, ad, kf, fun i => f (5 * i + 1) - nI 48, fun i => f (5 * i + 2) - nI 48, fun i => f (5 * i + 3) - nI 48)
theorem rdR_6 {T : gTown} {n : Nat} {ad : Nat → Nat} (hT : tN T ≤ 6) (hn : n ≤ 6) (f : Nat → Int32) (kf : Nat → Nat) : rdR T n ad 6 = tR (twT f kf n ad) := funext fun j => by
  show (if j < 6 then (if j < n then some (ad j) else none) else tR T j) = if j < n then some (ad j) else none
  by_cases e : j < 6
  · rw [if_pos e]
  · rw [if_neg e, if_neg (by omega)]
    unfold tR
    rw [if_neg (by omega)]
def mwK (kf : Nat → Nat) (n : Nat) : Nat → Int32
  | 0 => nI 0
  | i + 1 => if i < n ∧ kf i = 1 then mwK kf n i ||| (nI 1 <<< (nI i &&& 31)) else mwK kf n i
theorem mwK_B (f : Nat → Int32) (kf : Nat → Nat) (n : Nat) (ad : Nat → Nat) : ∀ i, mwB (twT f kf n ad) i = mwK kf n i
  | 0 => rfl
  | i + 1 => by rw [mwB, mwK, mwK_B f kf n ad i]; rfl
theorem mn_le {n : Nat} (h : n ≤ 6) : mn (nI n) (nI 6) = nI n := by
  unfold mn
  rw [if_neg (fun z => absurd ((nI_ltI (by omega) (by omega)).mp z) (by omega))]
set_option maxHeartbeats 4000000 in
set_option maxRecDepth 100000 in
theorem c_J0_coder_7d493 (l : Launch) (E : gEnv) (ws : va_W) : Cn l E yJ0_coder_7d493 wsJ0_coder_7d493 (rmL 0 0 0) [.ref (E.2.2.1 0)] (ws) 0 0 (fun v w => v = some (.int (nI 0)) ∧ w = ws) := by
  refine Cn.of (own := RJ0) (cc := cJ0_coder_7d493) (maxL := 1) (ret := (some .byte)) (lv := [(0, .ref (E.2.2.1 0))]) (by decide) rfl rfl (Nat.le_of_ble_eq_true rfl) rfl ?_
  intro p_ e_ s_ m_ args_ below_ meth_ c_ A_ P_ hp_ F hr_ hnm_
  have hz38 : Cond.fieldLink RJ0 38 "java/lang/String" "COMPACT_STRINGS" "Z" ∈ wsJ0_coder_7d493 := by decide +kernel
  have hs15 : Cond.fieldLink RJ0 15 "java/lang/String" "coder" "B" ∈ wsJ0_coder_7d493 := by decide +kernel
  refine q_getsZ F hz38 dJ0_coder_7d493_0 ?_
  refine q_if_eq F (tgt := 13) dJ0_coder_7d493_3 (by decide) (fun h_3 => ?_) (fun h_3 => ?_)
  · skip
    exact absurd h_3 (by decide)
  · skip
    refine q_aload_n F 0 dJ0_coder_7d493_6 rfl ?_
    refine q_getSc F hs15 dJ0_coder_7d493_7 ?_
    refine q_goto F (tgt := 14) dJ0_coder_7d493_10 (by decide) ?_
    refine q_zret F hr_ (by decide) dJ0_coder_7d493_14 (hp_ _ _ ⟨congrArg (fun z => some (Value.int z)) ?_, ?_⟩)
    · first | rfl | simp_all
    · rfl

set_option maxHeartbeats 4000000 in
set_option maxRecDepth 100000 in
theorem c_J0_isLatin1_aae02 (l : Launch) (E : gEnv) (ws : va_W) : Cn l E yJ0_isLatin1_aae02 wsJ0_isLatin1_aae02 (rmL 0 0 0) [.ref (E.2.2.1 0)] (ws) 0 0 (fun v w => v = some (.int (nI 1)) ∧ w = ws) := by
  refine Cn.of (own := RJ0) (cc := cJ0_isLatin1_aae02) (maxL := 1) (ret := (some .boolean)) (lv := [(0, .ref (E.2.2.1 0))]) (by decide) rfl rfl (Nat.le_of_ble_eq_true rfl) rfl ?_
  intro p_ e_ s_ m_ args_ below_ meth_ c_ A_ P_ hp_ F hr_ hnm_
  have hz38 : Cond.fieldLink RJ0 38 "java/lang/String" "COMPACT_STRINGS" "Z" ∈ wsJ0_isLatin1_aae02 := by decide +kernel
  have hs15 : Cond.fieldLink RJ0 15 "java/lang/String" "coder" "B" ∈ wsJ0_isLatin1_aae02 := by decide +kernel
  refine q_getsZ F hz38 dJ0_isLatin1_aae02_0 ?_
  refine q_if_eq F (tgt := 17) dJ0_isLatin1_aae02_3 (by decide) (fun h_3 => ?_) (fun h_3 => ?_)
  · skip
    exact absurd h_3 (by decide)
  · skip
    refine q_aload_n F 0 dJ0_isLatin1_aae02_6 rfl ?_
    refine q_getSc F hs15 dJ0_isLatin1_aae02_7 ?_
    refine q_if_ne F (tgt := 17) dJ0_isLatin1_aae02_10 (by decide) (fun h_10 => ?_) (fun h_10 => ?_)
    · skip
      exact absurd h_10 (by decide)
    · skip
      refine q_iconst F dJ0_isLatin1_aae02_13 (v := nI 1) (by decide) ?_
      refine q_goto F (tgt := 18) dJ0_isLatin1_aae02_14 (by decide) ?_
      refine q_zret F hr_ (by decide) dJ0_isLatin1_aae02_18 (hp_ _ _ ⟨congrArg (fun z => some (Value.int z)) ?_, ?_⟩)
      · first | rfl | simp_all
      · rfl

set_option maxHeartbeats 4000000 in
set_option maxRecDepth 100000 in
theorem c_J0_length_8abf5 (l : Launch) (E : gEnv) (ws : va_W) : Cn l E yJ0_length_8abf5 wsJ0_length_8abf5 (rmL 1 0 0) [.ref (E.2.2.1 0)] (ws) 0 0 (fun v w => v = some (.int (nI 5)) ∧ w = ws) := by
  refine Cn.of (own := RJ0) (cc := cJ0_length_8abf5) (maxL := 1) (ret := (some .int)) (lv := [(0, .ref (E.2.2.1 0))]) (by decide) rfl rfl (Nat.le_of_ble_eq_true rfl) rfl ?_
  intro p_ e_ s_ m_ args_ below_ meth_ c_ A_ P_ hp_ F hr_ hnm_
  have hs9 : Cond.fieldLink RJ0 9 "java/lang/String" "value" "[B" ∈ wsJ0_length_8abf5 := by decide +kernel
  have hd_J0_coder_7d493 : yJ0_coder_7d493.cls = RJ0 ∧ yJ0_coder_7d493.cls ≠ "java/lang/invoke/MethodHandle" ∧ yJ0_coder_7d493.cls ≠ "java/lang/invoke/VarHandle" ∧ (parseMethodDescriptor yJ0_coder_7d493.desc).map (fun d => d.parameters.length) = some 0 := by decide +kernel
  refine q_aload_n F 0 dJ0_length_8abf5_0 rfl ?_
  refine q_getSv F hs9 dJ0_length_8abf5_1 ?_
  refine q_slen F dJ0_length_8abf5_4 ?_
  refine q_aload_n F 0 dJ0_length_8abf5_5 rfl ?_
  refine q_callK F (As := []) (rest := [.int (nI 5)]) (c_J0_coder_7d493 l E ws) (List.Perm.refl _) gJ0_length_8abf5_J0_coder_7d493 rfl rfl rfl hd_J0_coder_7d493 ⟨by decide, by decide⟩ rfl (Nat.le_of_ble_eq_true rfl) dJ0_length_8abf5_6 ⟨Nat.le_of_ble_eq_true rfl, Nat.le_of_ble_eq_true rfl⟩ (fun v_ w_ hvw => ?_)
  rw [hvw.1, hvw.2]
  clear hvw
  refine q_at (pc' := 9) (st' := [.int (nI 0), .int (nI 5)]) (ws' := ws) (k' := 0) (n' := 0) rfl rfl rfl rfl rfl ?_
  refine q_ishr F dJ0_length_8abf5_9 ?_
  refine q_iret F hr_ dJ0_length_8abf5_10 (hp_ _ _ ⟨congrArg (fun z => some (Value.int z)) ?_, ?_⟩)
  · decide
  · rfl

set_option maxHeartbeats 4000000 in
set_option maxRecDepth 100000 in
theorem c_J1_canEncode_9a6ad (l : Launch) (E : gEnv) (ws : va_W) (n : Nat) (hn : n < 127) : Cn l E yJ1_canEncode_9a6ad wsJ1_canEncode_9a6ad (rmL 0 0 0) [.int (nI n)] (ws) 0 0 (fun v w => v = some (.int (nI 1)) ∧ w = ws) := by
  refine Cn.of (own := RJ1) (cc := cJ1_canEncode_9a6ad) (maxL := 1) (ret := (some .boolean)) (lv := [(0, .int (nI n))]) (by decide) rfl rfl (Nat.le_of_ble_eq_true rfl) rfl ?_
  intro p_ e_ s_ m_ args_ below_ meth_ c_ A_ P_ hp_ F hr_ hnm_
  refine q_iload_n F 0 dJ1_canEncode_9a6ad_0 rfl ?_
  refine q_if_lt F (tgt := 15) dJ1_canEncode_9a6ad_1 (by decide) (fun h_1 => ?_) (fun h_1 => ?_)
  · skip
    have hn_1 : n < 0 := nf_lt_t0 (by omega) h_1
    omega
  · skip
    have hn_1 : n ≥ 0 := nf_lt_f0 (by omega) h_1
    refine q_iload_n F 0 dJ1_canEncode_9a6ad_4 rfl ?_
    refine q_sipush F dJ1_canEncode_9a6ad_5 (v := nI 255) (by decide) ?_
    refine q_icmp_gt F (tgt := 15) dJ1_canEncode_9a6ad_8 (by decide) (fun h_8 => ?_) (fun h_8 => ?_)
    · skip
      have hn_8 : n > 255 := nf_gt_t (by omega) (by omega) h_8
      omega
    · skip
      have hn_8 : n ≤ 255 := nf_gt_f (by omega) (by omega) h_8
      refine q_iconst F dJ1_canEncode_9a6ad_11 (v := nI 1) (by decide) ?_
      refine q_goto F (tgt := 16) dJ1_canEncode_9a6ad_12 (by decide) ?_
      refine q_zret F hr_ (by decide) dJ1_canEncode_9a6ad_16 (hp_ _ _ ⟨congrArg (fun z => some (Value.int z)) ?_, ?_⟩)
      · first | rfl | simp_all
      · rfl

set_option maxHeartbeats 4000000 in
set_option maxRecDepth 100000 in
theorem c_J1_indexOfChar_4cfef (l : Launch) (E : gEnv) (ws : va_W) (n : Nat) (hn : n < 127) : Cn l E yJ1_indexOfChar_4cfef wsJ1_indexOfChar_4cfef (rmL 0 0 0) [.ref (E.2.2.2 0), .int (nI n), .int (nI 0), .int (nI 5)] (ws) 0 0 (fun v w => v = some (.int (kbF (nI n))) ∧ w = ws) := by
  refine Cn.of (own := RJ1) (cc := cJ1_indexOfChar_4cfef) (maxL := 6) (ret := (some .int)) (lv := [(0, .ref (E.2.2.2 0)), (1, .int (nI n)), (2, .int (nI 0)), (3, .int (nI 5))]) (by decide) rfl rfl (Nat.le_of_ble_eq_true rfl) rfl ?_
  intro p_ e_ s_ m_ args_ below_ meth_ c_ A_ P_ hp_ F hr_ hnm_
  refine q_iload_n F 1 dJ1_indexOfChar_4cfef_0 rfl ?_
  refine q_i2b F dJ1_indexOfChar_4cfef_1 (v := nI n) (i2b_n ⟨n, hn⟩) ?_
  refine q_istore F (lv' := [(4, .int (nI n)), (0, .ref (E.2.2.2 0)), (1, .int (nI n)), (2, .int (nI 0)), (3, .int (nI 5))]) dJ1_indexOfChar_4cfef_2 (by decide) rfl ?_
  refine q_iload_n F 3 dJ1_indexOfChar_4cfef_4 rfl ?_
  refine q_istore F (lv' := [(5, .int (nI 0)), (4, .int (nI n)), (0, .ref (E.2.2.2 0)), (1, .int (nI n)), (2, .int (nI 0)), (3, .int (nI 5))]) dJ1_indexOfChar_4cfef_5 (by decide) rfl ?_
  refine q_iload F 0 dJ1_indexOfChar_4cfef_7 rfl ?_
  refine q_iload_n F 5 dJ1_indexOfChar_4cfef_9 rfl ?_
  refine q_icmp_ge F (tgt := 31) dJ1_indexOfChar_4cfef_10 (by decide) (fun h_10 => ?_) (fun h_10 => ?_)
  · skip
    exact absurd h_10 (by decide)
  · skip
    refine q_aload_n F 2 dJ1_indexOfChar_4cfef_13 rfl ?_
    refine q_iload F 0 dJ1_indexOfChar_4cfef_14 rfl ?_
    refine q_sbld F 0 (v := nI 104) (by decide) (by decide) dJ1_indexOfChar_4cfef_16 ?_
    refine q_iload F 1 dJ1_indexOfChar_4cfef_17 rfl ?_
    refine q_icmp_ne F (tgt := 25) dJ1_indexOfChar_4cfef_19 (by decide) (fun h_19 => ?_) (fun h_19 => ?_)
    · skip
      have hn_19 : 104 ≠ n := nf_ne_t (by omega) (by omega) h_19
      have hx_104 : n ≠ 104 := fun z => hn_19 z.symm
      refine q_iinc F 0 (v := nI 1) (lv' := [(5, .int (nI 1)), (4, .int (nI n)), (0, .ref (E.2.2.2 0)), (1, .int (nI n)), (2, .int (nI 0)), (3, .int (nI 5))]) dJ1_indexOfChar_4cfef_25 rfl (by decide) (by decide) rfl ?_
      refine q_goto F (tgt := 7) dJ1_indexOfChar_4cfef_28 (by decide) ?_
      refine q_iload F 0 dJ1_indexOfChar_4cfef_7 rfl ?_
      refine q_iload_n F 5 dJ1_indexOfChar_4cfef_9 rfl ?_
      refine q_icmp_ge F (tgt := 31) dJ1_indexOfChar_4cfef_10 (by decide) (fun h_10 => ?_) (fun h_10 => ?_)
      · skip
        exact absurd h_10 (by decide)
      · skip
        refine q_aload_n F 2 dJ1_indexOfChar_4cfef_13 rfl ?_
        refine q_iload F 0 dJ1_indexOfChar_4cfef_14 rfl ?_
        refine q_sbld F 1 (v := nI 109) (by decide) (by decide) dJ1_indexOfChar_4cfef_16 ?_
        refine q_iload F 1 dJ1_indexOfChar_4cfef_17 rfl ?_
        refine q_icmp_ne F (tgt := 25) dJ1_indexOfChar_4cfef_19 (by decide) (fun h_19 => ?_) (fun h_19 => ?_)
        · skip
          have hn_19 : 109 ≠ n := nf_ne_t (by omega) (by omega) h_19
          have hx_109 : n ≠ 109 := fun z => hn_19 z.symm
          refine q_iinc F 0 (v := nI 2) (lv' := [(5, .int (nI 2)), (4, .int (nI n)), (0, .ref (E.2.2.2 0)), (1, .int (nI n)), (2, .int (nI 0)), (3, .int (nI 5))]) dJ1_indexOfChar_4cfef_25 rfl (by decide) (by decide) rfl ?_
          refine q_goto F (tgt := 7) dJ1_indexOfChar_4cfef_28 (by decide) ?_
          refine q_iload F 0 dJ1_indexOfChar_4cfef_7 rfl ?_
          refine q_iload_n F 5 dJ1_indexOfChar_4cfef_9 rfl ?_
          refine q_icmp_ge F (tgt := 31) dJ1_indexOfChar_4cfef_10 (by decide) (fun h_10 => ?_) (fun h_10 => ?_)
          · skip
            exact absurd h_10 (by decide)
          · skip
            refine q_aload_n F 2 dJ1_indexOfChar_4cfef_13 rfl ?_
            refine q_iload F 0 dJ1_indexOfChar_4cfef_14 rfl ?_
            refine q_sbld F 2 (v := nI 105) (by decide) (by decide) dJ1_indexOfChar_4cfef_16 ?_
            refine q_iload F 1 dJ1_indexOfChar_4cfef_17 rfl ?_
            refine q_icmp_ne F (tgt := 25) dJ1_indexOfChar_4cfef_19 (by decide) (fun h_19 => ?_) (fun h_19 => ?_)
            · skip
              have hn_19 : 105 ≠ n := nf_ne_t (by omega) (by omega) h_19
              have hx_105 : n ≠ 105 := fun z => hn_19 z.symm
              refine q_iinc F 0 (v := nI 3) (lv' := [(5, .int (nI 3)), (4, .int (nI n)), (0, .ref (E.2.2.2 0)), (1, .int (nI n)), (2, .int (nI 0)), (3, .int (nI 5))]) dJ1_indexOfChar_4cfef_25 rfl (by decide) (by decide) rfl ?_
              refine q_goto F (tgt := 7) dJ1_indexOfChar_4cfef_28 (by decide) ?_
              refine q_iload F 0 dJ1_indexOfChar_4cfef_7 rfl ?_
              refine q_iload_n F 5 dJ1_indexOfChar_4cfef_9 rfl ?_
              refine q_icmp_ge F (tgt := 31) dJ1_indexOfChar_4cfef_10 (by decide) (fun h_10 => ?_) (fun h_10 => ?_)
              · skip
                exact absurd h_10 (by decide)
              · skip
                refine q_aload_n F 2 dJ1_indexOfChar_4cfef_13 rfl ?_
                refine q_iload F 0 dJ1_indexOfChar_4cfef_14 rfl ?_
                refine q_sbld F 3 (v := nI 119) (by decide) (by decide) dJ1_indexOfChar_4cfef_16 ?_
                refine q_iload F 1 dJ1_indexOfChar_4cfef_17 rfl ?_
                refine q_icmp_ne F (tgt := 25) dJ1_indexOfChar_4cfef_19 (by decide) (fun h_19 => ?_) (fun h_19 => ?_)
                · skip
                  have hn_19 : 119 ≠ n := nf_ne_t (by omega) (by omega) h_19
                  have hx_119 : n ≠ 119 := fun z => hn_19 z.symm
                  refine q_iinc F 0 (v := nI 4) (lv' := [(5, .int (nI 4)), (4, .int (nI n)), (0, .ref (E.2.2.2 0)), (1, .int (nI n)), (2, .int (nI 0)), (3, .int (nI 5))]) dJ1_indexOfChar_4cfef_25 rfl (by decide) (by decide) rfl ?_
                  refine q_goto F (tgt := 7) dJ1_indexOfChar_4cfef_28 (by decide) ?_
                  refine q_iload F 0 dJ1_indexOfChar_4cfef_7 rfl ?_
                  refine q_iload_n F 5 dJ1_indexOfChar_4cfef_9 rfl ?_
                  refine q_icmp_ge F (tgt := 31) dJ1_indexOfChar_4cfef_10 (by decide) (fun h_10 => ?_) (fun h_10 => ?_)
                  · skip
                    exact absurd h_10 (by decide)
                  · skip
                    refine q_aload_n F 2 dJ1_indexOfChar_4cfef_13 rfl ?_
                    refine q_iload F 0 dJ1_indexOfChar_4cfef_14 rfl ?_
                    refine q_sbld F 4 (v := nI 108) (by decide) (by decide) dJ1_indexOfChar_4cfef_16 ?_
                    refine q_iload F 1 dJ1_indexOfChar_4cfef_17 rfl ?_
                    refine q_icmp_ne F (tgt := 25) dJ1_indexOfChar_4cfef_19 (by decide) (fun h_19 => ?_) (fun h_19 => ?_)
                    · skip
                      have hn_19 : 108 ≠ n := nf_ne_t (by omega) (by omega) h_19
                      have hx_108 : n ≠ 108 := fun z => hn_19 z.symm
                      refine q_iinc F 0 (v := nI 5) (lv' := [(5, .int (nI 5)), (4, .int (nI n)), (0, .ref (E.2.2.2 0)), (1, .int (nI n)), (2, .int (nI 0)), (3, .int (nI 5))]) dJ1_indexOfChar_4cfef_25 rfl (by decide) (by decide) rfl ?_
                      refine q_goto F (tgt := 7) dJ1_indexOfChar_4cfef_28 (by decide) ?_
                      refine q_iload F 0 dJ1_indexOfChar_4cfef_7 rfl ?_
                      refine q_iload_n F 5 dJ1_indexOfChar_4cfef_9 rfl ?_
                      refine q_icmp_ge F (tgt := 31) dJ1_indexOfChar_4cfef_10 (by decide) (fun h_10 => ?_) (fun h_10 => ?_)
                      · skip
                        refine q_iconst F dJ1_indexOfChar_4cfef_31 (v := (-1)) (by decide) ?_
                        refine q_iret F hr_ dJ1_indexOfChar_4cfef_32 (hp_ _ _ ⟨congrArg (fun z => some (Value.int z)) ?_, ?_⟩)
                        · exact (kbF_c hn hx_104 hx_109 hx_105 hx_119 hx_108).symm
                        · rfl
                      · skip
                        exact absurd h_10 (by decide)
                    · skip
                      have hn_19 : 108 = n := nf_ne_f (by omega) (by omega) h_19
                      refine q_iload F 0 dJ1_indexOfChar_4cfef_22 rfl ?_
                      refine q_iret F hr_ dJ1_indexOfChar_4cfef_24 (hp_ _ _ ⟨congrArg (fun z => some (Value.int z)) ?_, ?_⟩)
                      · rw [← hn_19]; decide
                      · rfl
                · skip
                  have hn_19 : 119 = n := nf_ne_f (by omega) (by omega) h_19
                  refine q_iload F 0 dJ1_indexOfChar_4cfef_22 rfl ?_
                  refine q_iret F hr_ dJ1_indexOfChar_4cfef_24 (hp_ _ _ ⟨congrArg (fun z => some (Value.int z)) ?_, ?_⟩)
                  · rw [← hn_19]; decide
                  · rfl
            · skip
              have hn_19 : 105 = n := nf_ne_f (by omega) (by omega) h_19
              refine q_iload F 0 dJ1_indexOfChar_4cfef_22 rfl ?_
              refine q_iret F hr_ dJ1_indexOfChar_4cfef_24 (hp_ _ _ ⟨congrArg (fun z => some (Value.int z)) ?_, ?_⟩)
              · rw [← hn_19]; decide
              · rfl
        · skip
          have hn_19 : 109 = n := nf_ne_f (by omega) (by omega) h_19
          refine q_iload F 0 dJ1_indexOfChar_4cfef_22 rfl ?_
          refine q_iret F hr_ dJ1_indexOfChar_4cfef_24 (hp_ _ _ ⟨congrArg (fun z => some (Value.int z)) ?_, ?_⟩)
          · rw [← hn_19]; decide
          · rfl
    · skip
      have hn_19 : 104 = n := nf_ne_f (by omega) (by omega) h_19
      refine q_iload F 0 dJ1_indexOfChar_4cfef_22 rfl ?_
      refine q_iret F hr_ dJ1_indexOfChar_4cfef_24 (hp_ _ _ ⟨congrArg (fun z => some (Value.int z)) ?_, ?_⟩)
      · rw [← hn_19]; decide
      · rfl

set_option maxHeartbeats 4000000 in
set_option maxRecDepth 100000 in
theorem c_J1_indexOf_4cfef (l : Launch) (E : gEnv) (ws : va_W) (n : Nat) (hn : n < 127) : Cn l E yJ1_indexOf_4cfef wsJ1_indexOf_4cfef (rmL 1 0 0) [.ref (E.2.2.2 0), .int (nI n), .int (nI 0), .int (nI 5)] (ws) 0 0 (fun v w => v = some (.int (kbF (nI n))) ∧ w = ws) := by
  refine Cn.of (own := RJ1) (cc := cJ1_indexOf_4cfef) (maxL := 4) (ret := (some .int)) (lv := [(0, .ref (E.2.2.2 0)), (1, .int (nI n)), (2, .int (nI 0)), (3, .int (nI 5))]) (by decide) rfl rfl (Nat.le_of_ble_eq_true rfl) rfl ?_
  intro p_ e_ s_ m_ args_ below_ meth_ c_ A_ P_ hp_ F hr_ hnm_
  have hd_J1_canEncode_9a6ad : yJ1_canEncode_9a6ad.cls ≠ "java/lang/invoke/MethodHandle" ∧ yJ1_canEncode_9a6ad.cls ≠ "java/lang/invoke/VarHandle" ∧ (parseMethodDescriptor yJ1_canEncode_9a6ad.desc).map (fun d => d.parameters.length) = some 1 := by decide +kernel
  have hm92_0 : Cond.methodLink RJ1 92 Lib.Math.max.name ∈ wsJ1_indexOf_4cfef := by decide +kernel
  have hm92_1 : Cond.static Lib.Math.max.name ∈ wsJ1_indexOf_4cfef := by decide +kernel
  have hm92_2 : Cond.initialized "java/lang/Math" ∈ wsJ1_indexOf_4cfef := by decide +kernel
  have hm92_3 : Cond.code Lib.Math.max.name Lib.Math.max.code 2 (some .int) ∈ wsJ1_indexOf_4cfef := by decide +kernel
  have hm38_0 : Cond.methodLink RJ1 38 Lib.Math.min.name ∈ wsJ1_indexOf_4cfef := by decide +kernel
  have hm38_1 : Cond.static Lib.Math.min.name ∈ wsJ1_indexOf_4cfef := by decide +kernel
  have hm38_2 : Cond.initialized "java/lang/Math" ∈ wsJ1_indexOf_4cfef := by decide +kernel
  have hm38_3 : Cond.code Lib.Math.min.name Lib.Math.min.code 2 (some .int) ∈ wsJ1_indexOf_4cfef := by decide +kernel
  have hd_J1_indexOfChar_4cfef : yJ1_indexOfChar_4cfef.cls ≠ "java/lang/invoke/MethodHandle" ∧ yJ1_indexOfChar_4cfef.cls ≠ "java/lang/invoke/VarHandle" ∧ (parseMethodDescriptor yJ1_indexOfChar_4cfef.desc).map (fun d => d.parameters.length) = some 4 := by decide +kernel
  refine q_iload_n F 1 dJ1_indexOf_4cfef_0 rfl ?_
  refine q_callS F (As := [.int (nI n)]) (rest := []) (c_J1_canEncode_9a6ad l E ws n hn) (List.Perm.refl _) gJ1_indexOf_4cfef_J1_canEncode_9a6ad rfl rfl rfl hd_J1_canEncode_9a6ad ⟨by decide, by decide⟩ rfl (Nat.le_of_ble_eq_true rfl) dJ1_indexOf_4cfef_1 ⟨Nat.le_of_ble_eq_true rfl, Nat.le_of_ble_eq_true rfl⟩ (fun v_ w_ hvw => ?_)
  rw [hvw.1, hvw.2]
  clear hvw
  refine q_at (pc' := 4) (st' := [.int (nI 1)]) (ws' := ws) (k' := 0) (n' := 0) rfl rfl rfl rfl rfl ?_
  refine q_if_ne F (tgt := 9) dJ1_indexOf_4cfef_4 (by decide) (fun h_4 => ?_) (fun h_4 => ?_)
  · skip
    refine q_iload_n F 2 dJ1_indexOf_4cfef_9 rfl ?_
    refine q_iconst F dJ1_indexOf_4cfef_10 (v := nI 0) (by decide) ?_
    refine q_mmax F hm92_0 hm92_1 hm92_2 hm92_3 (by decide) (Nat.le_of_ble_eq_true rfl) (by decide) (by decide) dJ1_indexOf_4cfef_11 ?_
    refine q_toi (mx (nI 0) (nI 0)) rfl ?_
    refine q_toi (nI 0) (by decide) ?_
    refine q_istore_n F (lv' := [(2, .int (nI 0)), (0, .ref (E.2.2.2 0)), (1, .int (nI n)), (3, .int (nI 5))]) dJ1_indexOf_4cfef_14 (by decide) rfl ?_
    refine q_iload_n F 3 dJ1_indexOf_4cfef_15 rfl ?_
    refine q_aload_n F 1 dJ1_indexOf_4cfef_16 rfl ?_
    refine q_slen F dJ1_indexOf_4cfef_17 ?_
    refine q_mmin F hm38_0 hm38_1 hm38_2 hm38_3 (by decide) (Nat.le_of_ble_eq_true rfl) (by decide) (by decide) dJ1_indexOf_4cfef_18 ?_
    refine q_toi (mn (nI 5) (nI 5)) rfl ?_
    refine q_toi (nI 5) (by decide) ?_
    refine q_istore_n F (lv' := [(3, .int (nI 5)), (2, .int (nI 0)), (0, .ref (E.2.2.2 0)), (1, .int (nI n))]) dJ1_indexOf_4cfef_21 (by decide) rfl ?_
    refine q_iload_n F 1 dJ1_indexOf_4cfef_22 rfl ?_
    refine q_iload_n F 0 dJ1_indexOf_4cfef_23 rfl ?_
    refine q_icmp_lt F (tgt := 29) dJ1_indexOf_4cfef_24 (by decide) (fun h_24 => ?_) (fun h_24 => ?_)
    · skip
      refine q_aload_n F 2 dJ1_indexOf_4cfef_29 rfl ?_
      refine q_iload_n F 3 dJ1_indexOf_4cfef_30 rfl ?_
      refine q_iload_n F 1 dJ1_indexOf_4cfef_31 rfl ?_
      refine q_iload_n F 0 dJ1_indexOf_4cfef_32 rfl ?_
      refine q_callS F (As := [.ref (E.2.2.2 0), .int (nI n), .int (nI 0), .int (nI 5)]) (rest := []) (c_J1_indexOfChar_4cfef l E ws n hn) (List.Perm.refl _) gJ1_indexOf_4cfef_J1_indexOfChar_4cfef rfl rfl rfl hd_J1_indexOfChar_4cfef ⟨by decide, by decide⟩ rfl (Nat.le_of_ble_eq_true rfl) dJ1_indexOf_4cfef_33 ⟨Nat.le_of_ble_eq_true rfl, Nat.le_of_ble_eq_true rfl⟩ (fun v_ w_ hvw => ?_)
      rw [hvw.1, hvw.2]
      clear hvw
      refine q_at (pc' := 36) (st' := [.int (kbF (nI n))]) (ws' := ws) (k' := 0) (n' := 0) rfl rfl rfl rfl rfl ?_
      refine q_iret F hr_ dJ1_indexOf_4cfef_36 (hp_ _ _ ⟨congrArg (fun z => some (Value.int z)) ?_, ?_⟩)
      · first | rfl | simp_all
      · rfl
    · skip
      exact absurd h_24 (by decide)
  · skip
    exact absurd h_4 (by decide)

set_option maxHeartbeats 4000000 in
set_option maxRecDepth 100000 in
theorem c_J0_indexOf_7cf53 (l : Launch) (E : gEnv) (ws : va_W) (n : Nat) (hn : n < 127) : Cn l E yJ0_indexOf_7cf53 wsJ0_indexOf_7cf53 (rmL 2 0 0) [.ref (E.2.2.1 0), .int (nI n), .int (nI 0)] (ws) 0 0 (fun v w => v = some (.int (kbF (nI n))) ∧ w = ws) := by
  refine Cn.of (own := RJ0) (cc := cJ0_indexOf_7cf53) (maxL := 3) (ret := (some .int)) (lv := [(0, .ref (E.2.2.1 0)), (1, .int (nI n)), (2, .int (nI 0))]) (by decide) rfl rfl (Nat.le_of_ble_eq_true rfl) rfl ?_
  intro p_ e_ s_ m_ args_ below_ meth_ c_ A_ P_ hp_ F hr_ hnm_
  have hd_J0_isLatin1_aae02 : yJ0_isLatin1_aae02.cls = RJ0 ∧ yJ0_isLatin1_aae02.cls ≠ "java/lang/invoke/MethodHandle" ∧ yJ0_isLatin1_aae02.cls ≠ "java/lang/invoke/VarHandle" ∧ (parseMethodDescriptor yJ0_isLatin1_aae02.desc).map (fun d => d.parameters.length) = some 0 := by decide +kernel
  have hs9 : Cond.fieldLink RJ0 9 "java/lang/String" "value" "[B" ∈ wsJ0_indexOf_7cf53 := by decide +kernel
  have hd_J0_length_8abf5 : yJ0_length_8abf5.cls = RJ0 ∧ yJ0_length_8abf5.cls ≠ "java/lang/invoke/MethodHandle" ∧ yJ0_length_8abf5.cls ≠ "java/lang/invoke/VarHandle" ∧ (parseMethodDescriptor yJ0_length_8abf5.desc).map (fun d => d.parameters.length) = some 0 := by decide +kernel
  have hd_J1_indexOf_4cfef : yJ1_indexOf_4cfef.cls ≠ "java/lang/invoke/MethodHandle" ∧ yJ1_indexOf_4cfef.cls ≠ "java/lang/invoke/VarHandle" ∧ (parseMethodDescriptor yJ1_indexOf_4cfef.desc).map (fun d => d.parameters.length) = some 4 := by decide +kernel
  refine q_aload_n F 0 dJ0_indexOf_7cf53_0 rfl ?_
  refine q_callK F (As := []) (rest := []) (c_J0_isLatin1_aae02 l E ws) (List.Perm.refl _) gJ0_indexOf_7cf53_J0_isLatin1_aae02 rfl rfl rfl hd_J0_isLatin1_aae02 ⟨by decide, by decide⟩ rfl (Nat.le_of_ble_eq_true rfl) dJ0_indexOf_7cf53_1 ⟨Nat.le_of_ble_eq_true rfl, Nat.le_of_ble_eq_true rfl⟩ (fun v_ w_ hvw => ?_)
  rw [hvw.1, hvw.2]
  clear hvw
  refine q_at (pc' := 4) (st' := [.int (nI 1)]) (ws' := ws) (k' := 0) (n' := 0) rfl rfl rfl rfl rfl ?_
  refine q_if_eq F (tgt := 23) dJ0_indexOf_7cf53_4 (by decide) (fun h_4 => ?_) (fun h_4 => ?_)
  · skip
    exact absurd h_4 (by decide)
  · skip
    refine q_aload_n F 0 dJ0_indexOf_7cf53_7 rfl ?_
    refine q_getSv F hs9 dJ0_indexOf_7cf53_8 ?_
    refine q_iload_n F 1 dJ0_indexOf_7cf53_11 rfl ?_
    refine q_iload_n F 2 dJ0_indexOf_7cf53_12 rfl ?_
    refine q_aload_n F 0 dJ0_indexOf_7cf53_13 rfl ?_
    refine q_callK F (As := []) (rest := [.int (nI 0), .int (nI n), .ref (E.2.2.2 0)]) (c_J0_length_8abf5 l E ws) (List.Perm.refl _) gJ0_indexOf_7cf53_J0_length_8abf5 rfl rfl rfl hd_J0_length_8abf5 ⟨by decide, by decide⟩ rfl (Nat.le_of_ble_eq_true rfl) dJ0_indexOf_7cf53_14 ⟨Nat.le_of_ble_eq_true rfl, Nat.le_of_ble_eq_true rfl⟩ (fun v_ w_ hvw => ?_)
    rw [hvw.1, hvw.2]
    clear hvw
    refine q_at (pc' := 17) (st' := [.int (nI 5), .int (nI 0), .int (nI n), .ref (E.2.2.2 0)]) (ws' := ws) (k' := 0) (n' := 0) rfl rfl rfl rfl rfl ?_
    refine q_callS F (As := [.ref (E.2.2.2 0), .int (nI n), .int (nI 0), .int (nI 5)]) (rest := []) (c_J1_indexOf_4cfef l E ws n hn) (List.Perm.refl _) gJ0_indexOf_7cf53_J1_indexOf_4cfef rfl rfl rfl hd_J1_indexOf_4cfef ⟨by decide, by decide⟩ rfl (Nat.le_of_ble_eq_true rfl) dJ0_indexOf_7cf53_17 ⟨Nat.le_of_ble_eq_true rfl, Nat.le_of_ble_eq_true rfl⟩ (fun v_ w_ hvw => ?_)
    rw [hvw.1, hvw.2]
    clear hvw
    refine q_at (pc' := 20) (st' := [.int (kbF (nI n))]) (ws' := ws) (k' := 0) (n' := 0) rfl rfl rfl rfl rfl ?_
    refine q_goto F (tgt := 36) dJ0_indexOf_7cf53_20 (by decide) ?_
    refine q_iret F hr_ dJ0_indexOf_7cf53_36 (hp_ _ _ ⟨congrArg (fun z => some (Value.int z)) ?_, ?_⟩)
    · first | rfl | simp_all
    · rfl

set_option maxHeartbeats 4000000 in
set_option maxRecDepth 100000 in
theorem c_J0_indexOf_0f7a4 (l : Launch) (E : gEnv) (ws : va_W) (n : Nat) (hn : n < 127) : Cn l E yJ0_indexOf_0f7a4 wsJ0_indexOf_0f7a4 (rmL 3 0 0) [.ref (E.2.2.1 0), .int (nI n)] (ws) 0 0 (fun v w => v = some (.int (kbF (nI n))) ∧ w = ws) := by
  refine Cn.of (own := RJ0) (cc := cJ0_indexOf_0f7a4) (maxL := 2) (ret := (some .int)) (lv := [(0, .ref (E.2.2.1 0)), (1, .int (nI n))]) (by decide) rfl rfl (Nat.le_of_ble_eq_true rfl) rfl ?_
  intro p_ e_ s_ m_ args_ below_ meth_ c_ A_ P_ hp_ F hr_ hnm_
  have hd_J0_indexOf_7cf53 : yJ0_indexOf_7cf53.cls = RJ0 ∧ yJ0_indexOf_7cf53.cls ≠ "java/lang/invoke/MethodHandle" ∧ yJ0_indexOf_7cf53.cls ≠ "java/lang/invoke/VarHandle" ∧ (parseMethodDescriptor yJ0_indexOf_7cf53.desc).map (fun d => d.parameters.length) = some 2 := by decide +kernel
  refine q_aload_n F 0 dJ0_indexOf_0f7a4_0 rfl ?_
  refine q_iload_n F 1 dJ0_indexOf_0f7a4_1 rfl ?_
  refine q_iconst F dJ0_indexOf_0f7a4_2 (v := nI 0) (by decide) ?_
  refine q_callK F (As := [.int (nI n), .int (nI 0)]) (rest := []) (c_J0_indexOf_7cf53 l E ws n hn) (List.Perm.refl _) gJ0_indexOf_0f7a4_J0_indexOf_7cf53 rfl rfl rfl hd_J0_indexOf_7cf53 ⟨by decide, by decide⟩ rfl (Nat.le_of_ble_eq_true rfl) dJ0_indexOf_0f7a4_3 ⟨Nat.le_of_ble_eq_true rfl, Nat.le_of_ble_eq_true rfl⟩ (fun v_ w_ hvw => ?_)
  rw [hvw.1, hvw.2]
  clear hvw
  refine q_at (pc' := 6) (st' := [.int (kbF (nI n))]) (ws' := ws) (k' := 0) (n' := 0) rfl rfl rfl rfl rfl ?_
  refine q_iret F hr_ dJ0_indexOf_0f7a4_6 (hp_ _ _ ⟨congrArg (fun z => some (Value.int z)) ?_, ?_⟩)
  · first | rfl | simp_all
  · rfl

set_option maxHeartbeats 4000000 in
set_option maxRecDepth 100000 in
theorem c_X6_fits (l : Launch) (E : gEnv) (ws : va_W) (k : Nat) (hk : k < 30) (n : Nat) (hn : n < 127) : Cn l E yX6_fits wsX6_fits (rmL 4 0 0) [.int (nI k), .int (nI n)] (ws) 0 0 (fun v w => v = some (.int (bI (gdF k (nI n)))) ∧ w = ws) := by
  refine Cn.of (own := RX6) (cc := cX6_fits) (maxL := 2) (ret := (some .boolean)) (lv := [(0, .int (nI k)), (1, .int (nI n))]) (by decide) rfl rfl (Nat.le_of_ble_eq_true rfl) rfl ?_
  intro p_ e_ s_ m_ args_ below_ meth_ c_ A_ P_ hp_ F hr_ hnm_
  have hd_J0_indexOf_0f7a4 : yJ0_indexOf_0f7a4.cls = RJ0 ∧ yJ0_indexOf_0f7a4.cls ≠ "java/lang/invoke/MethodHandle" ∧ yJ0_indexOf_0f7a4.cls ≠ "java/lang/invoke/VarHandle" ∧ (parseMethodDescriptor yJ0_indexOf_0f7a4.desc).map (fun d => d.parameters.length) = some 1 := by decide +kernel
  refine q_iload_n F 0 dX6_fits_0 rfl ?_
  refine q_bipush F dX6_fits_1 (v := nI 29) (by decide) ?_
  refine q_icmp_lt F (tgt := 8) dX6_fits_3 (by decide) (fun h_3 => ?_) (fun h_3 => ?_)
  · skip
    have hn_3 : k < 29 := nf_lt_t (by omega) (by omega) h_3
    refine q_iload_n F 0 dX6_fits_8 rfl ?_
    refine q_iconst F dX6_fits_9 (v := nI 5) (by decide) ?_
    refine q_irem F dX6_fits_10 (nI_ne0 (by omega) (by omega)) ?_
    refine q_toi (nI (k % 5)) (pk_rem (by omega) (by omega) (by omega)) ?_
    rcases (show k % 5 = 0 ∨ k % 5 = 1 ∨ k % 5 = 2 ∨ k % 5 = 3 ∨ k % 5 = 4 by omega) with e5 | e5 | e5 | e5 | e5
    · skip
      refine q_toi (nI 0) (by rw [e5]) ?_
      refine q_tableIn F (off := 33) (tgt := 44) dX6_fits_11 (by decide) (by decide) (by decide) (by decide) ?_
      refine q_ldcS F dX6_fits_44 ?_
      refine q_iload_n F 1 dX6_fits_46 rfl ?_
      refine q_i2c F dX6_fits_47 (v := nI n) (i2c_n ⟨n, hn⟩) ?_
      refine q_callK F (As := [.int (nI n)]) (rest := []) (c_J0_indexOf_0f7a4 l E ws n hn) (List.Perm.refl _) gX6_fits_J0_indexOf_0f7a4 rfl rfl rfl hd_J0_indexOf_0f7a4 ⟨by decide, by decide⟩ rfl (Nat.le_of_ble_eq_true rfl) dX6_fits_48 ⟨Nat.le_of_ble_eq_true rfl, Nat.le_of_ble_eq_true rfl⟩ (fun v_ w_ hvw => ?_)
      rw [hvw.1, hvw.2]
      clear hvw
      refine q_at (pc' := 51) (st' := [.int (kbF (nI n))]) (ws' := ws) (k' := 0) (n' := 0) rfl rfl rfl rfl rfl ?_
      refine q_if_lt F (tgt := 58) dX6_fits_51 (by decide) (fun h_51 => ?_) (fun h_51 => ?_)
      · skip
        have hz_51 := Int32.not_le.mpr h_51
        refine q_iconst F dX6_fits_58 (v := nI 0) (by decide) ?_
        refine q_zret F hr_ (by decide) dX6_fits_59 (hp_ _ _ ⟨congrArg (fun z => some (Value.int z)) ?_, ?_⟩)
        · rw [gdF_0 e5, decide_eq_true (kbF_neg h_51)]; rfl
        · rfl
      · skip
        have hz_51 := Int32.not_lt.mp h_51
        refine q_iconst F dX6_fits_54 (v := nI 1) (by decide) ?_
        refine q_goto F (tgt := 59) dX6_fits_55 (by decide) ?_
        refine q_zret F hr_ (by decide) dX6_fits_59 (hp_ _ _ ⟨congrArg (fun z => some (Value.int z)) ?_, ?_⟩)
        · rw [gdF_0 e5, decide_eq_false (fun z => h_51 (by rw [z]; decide))]; rfl
        · rfl
    · skip
      refine q_toi (nI 1) (by rw [e5]) ?_
      refine q_tableIn F (off := 49) (tgt := 60) dX6_fits_11 (by decide) (by decide) (by decide) (by decide) ?_
      refine q_iload_n F 1 dX6_fits_60 rfl ?_
      refine q_bipush F dX6_fits_61 (v := nI 48) (by decide) ?_
      refine q_icmp_lt F (tgt := 76) dX6_fits_63 (by decide) (fun h_63 => ?_) (fun h_63 => ?_)
      · skip
        have hn_63 : n < 48 := nf_lt_t (by omega) (by omega) h_63
        refine q_iconst F dX6_fits_76 (v := nI 0) (by decide) ?_
        refine q_zret F hr_ (by decide) dX6_fits_77 (hp_ _ _ ⟨congrArg (fun z => some (Value.int z)) ?_, ?_⟩)
        · rw [gdF_1 e5, dg09 hn, decide_eq_false (by omega)]; rfl
        · rfl
      · skip
        have hn_63 : n ≥ 48 := nf_lt_f (by omega) (by omega) h_63
        refine q_iload_n F 1 dX6_fits_66 rfl ?_
        refine q_bipush F dX6_fits_67 (v := nI 57) (by decide) ?_
        refine q_icmp_gt F (tgt := 76) dX6_fits_69 (by decide) (fun h_69 => ?_) (fun h_69 => ?_)
        · skip
          have hn_69 : n > 57 := nf_gt_t (by omega) (by omega) h_69
          refine q_iconst F dX6_fits_76 (v := nI 0) (by decide) ?_
          refine q_zret F hr_ (by decide) dX6_fits_77 (hp_ _ _ ⟨congrArg (fun z => some (Value.int z)) ?_, ?_⟩)
          · rw [gdF_1 e5, dg09 hn, decide_eq_false (by omega)]; rfl
          · rfl
        · skip
          have hn_69 : n ≤ 57 := nf_gt_f (by omega) (by omega) h_69
          refine q_iconst F dX6_fits_72 (v := nI 1) (by decide) ?_
          refine q_goto F (tgt := 77) dX6_fits_73 (by decide) ?_
          refine q_zret F hr_ (by decide) dX6_fits_77 (hp_ _ _ ⟨congrArg (fun z => some (Value.int z)) ?_, ?_⟩)
          · rw [gdF_1 e5, dg09 hn, decide_eq_true ⟨by omega, by omega⟩]; rfl
          · rfl
    · skip
      refine q_toi (nI 2) (by rw [e5]) ?_
      refine q_tableIn F (off := 79) (tgt := 90) dX6_fits_11 (by decide) (by decide) (by decide) (by decide) ?_
      refine q_iload_n F 1 dX6_fits_90 rfl ?_
      refine q_bipush F dX6_fits_91 (v := nI 49) (by decide) ?_
      refine q_icmp_lt F (tgt := 106) dX6_fits_93 (by decide) (fun h_93 => ?_) (fun h_93 => ?_)
      · skip
        have hn_93 : n < 49 := nf_lt_t (by omega) (by omega) h_93
        refine q_iconst F dX6_fits_106 (v := nI 0) (by decide) ?_
        refine q_zret F hr_ (by decide) dX6_fits_107 (hp_ _ _ ⟨congrArg (fun z => some (Value.int z)) ?_, ?_⟩)
        · rw [gdF_2 e5, dg19 hn, decide_eq_false (by omega)]; rfl
        · rfl
      · skip
        have hn_93 : n ≥ 49 := nf_lt_f (by omega) (by omega) h_93
        refine q_iload_n F 1 dX6_fits_96 rfl ?_
        refine q_bipush F dX6_fits_97 (v := nI 57) (by decide) ?_
        refine q_icmp_gt F (tgt := 106) dX6_fits_99 (by decide) (fun h_99 => ?_) (fun h_99 => ?_)
        · skip
          have hn_99 : n > 57 := nf_gt_t (by omega) (by omega) h_99
          refine q_iconst F dX6_fits_106 (v := nI 0) (by decide) ?_
          refine q_zret F hr_ (by decide) dX6_fits_107 (hp_ _ _ ⟨congrArg (fun z => some (Value.int z)) ?_, ?_⟩)
          · rw [gdF_2 e5, dg19 hn, decide_eq_false (by omega)]; rfl
          · rfl
        · skip
          have hn_99 : n ≤ 57 := nf_gt_f (by omega) (by omega) h_99
          refine q_iconst F dX6_fits_102 (v := nI 1) (by decide) ?_
          refine q_goto F (tgt := 107) dX6_fits_103 (by decide) ?_
          refine q_zret F hr_ (by decide) dX6_fits_107 (hp_ _ _ ⟨congrArg (fun z => some (Value.int z)) ?_, ?_⟩)
          · rw [gdF_2 e5, dg19 hn, decide_eq_true ⟨by omega, by omega⟩]; rfl
          · rfl
    · skip
      refine q_toi (nI 3) (by rw [e5]) ?_
      refine q_tableIn F (off := 79) (tgt := 90) dX6_fits_11 (by decide) (by decide) (by decide) (by decide) ?_
      refine q_iload_n F 1 dX6_fits_90 rfl ?_
      refine q_bipush F dX6_fits_91 (v := nI 49) (by decide) ?_
      refine q_icmp_lt F (tgt := 106) dX6_fits_93 (by decide) (fun h_93 => ?_) (fun h_93 => ?_)
      · skip
        have hn_93 : n < 49 := nf_lt_t (by omega) (by omega) h_93
        refine q_iconst F dX6_fits_106 (v := nI 0) (by decide) ?_
        refine q_zret F hr_ (by decide) dX6_fits_107 (hp_ _ _ ⟨congrArg (fun z => some (Value.int z)) ?_, ?_⟩)
        · rw [gdF_3 e5, dg19 hn, decide_eq_false (by omega)]; rfl
        · rfl
      · skip
        have hn_93 : n ≥ 49 := nf_lt_f (by omega) (by omega) h_93
        refine q_iload_n F 1 dX6_fits_96 rfl ?_
        refine q_bipush F dX6_fits_97 (v := nI 57) (by decide) ?_
        refine q_icmp_gt F (tgt := 106) dX6_fits_99 (by decide) (fun h_99 => ?_) (fun h_99 => ?_)
        · skip
          have hn_99 : n > 57 := nf_gt_t (by omega) (by omega) h_99
          refine q_iconst F dX6_fits_106 (v := nI 0) (by decide) ?_
          refine q_zret F hr_ (by decide) dX6_fits_107 (hp_ _ _ ⟨congrArg (fun z => some (Value.int z)) ?_, ?_⟩)
          · rw [gdF_3 e5, dg19 hn, decide_eq_false (by omega)]; rfl
          · rfl
        · skip
          have hn_99 : n ≤ 57 := nf_gt_f (by omega) (by omega) h_99
          refine q_iconst F dX6_fits_102 (v := nI 1) (by decide) ?_
          refine q_goto F (tgt := 107) dX6_fits_103 (by decide) ?_
          refine q_zret F hr_ (by decide) dX6_fits_107 (hp_ _ _ ⟨congrArg (fun z => some (Value.int z)) ?_, ?_⟩)
          · rw [gdF_3 e5, dg19 hn, decide_eq_true ⟨by omega, by omega⟩]; rfl
          · rfl
    · skip
      refine q_toi (nI 4) (by rw [e5]) ?_
      refine q_tableIn F (off := 67) (tgt := 78) dX6_fits_11 (by decide) (by decide) (by decide) (by decide) ?_
      refine q_iload_n F 1 dX6_fits_78 rfl ?_
      refine q_bipush F dX6_fits_79 (v := nI 44) (by decide) ?_
      refine q_icmp_ne F (tgt := 88) dX6_fits_81 (by decide) (fun h_81 => ?_) (fun h_81 => ?_)
      · skip
        have hn_81 : n ≠ 44 := nf_ne_t (by omega) (by omega) h_81
        refine q_iconst F dX6_fits_88 (v := nI 0) (by decide) ?_
        refine q_zret F hr_ (by decide) dX6_fits_89 (hp_ _ _ ⟨congrArg (fun z => some (Value.int z)) ?_, ?_⟩)
        · rw [gdF_4 e5, eq44 hn, decide_eq_false (by omega)]; rfl
        · rfl
      · skip
        have hn_81 : n = 44 := nf_ne_f (by omega) (by omega) h_81
        refine q_iconst F dX6_fits_84 (v := nI 1) (by decide) ?_
        refine q_goto F (tgt := 89) dX6_fits_85 (by decide) ?_
        refine q_zret F hr_ (by decide) dX6_fits_89 (hp_ _ _ ⟨congrArg (fun z => some (Value.int z)) ?_, ?_⟩)
        · rw [gdF_4 e5, eq44 hn, decide_eq_true (by omega), decide_eq_true (by omega)]; rfl
        · rfl
  · skip
    have hn_3 : k ≥ 29 := nf_lt_f (by omega) (by omega) h_3
    refine q_iconst F dX6_fits_6 (v := nI 0) (by decide) ?_
    refine q_zret F hr_ (by decide) dX6_fits_7 (hp_ _ _ ⟨congrArg (fun z => some (Value.int z)) ?_, ?_⟩)
    · (have e : k = 29 := by omega); subst e; rw [gdF_4 (by decide)]; simp [bI]
    · rfl

set_option maxHeartbeats 4000000 in
set_option maxRecDepth 100000 in
theorem c_X6_firstFault (l : Launch) (E : gEnv) (q : Nat → Nat) (n : Nat) (f : Nat → Int32) (tl : va_W) (hP : isIn (pC E q n f) tl) (hn : n ≤ 30) (hc : ∀ i, i < n → ∃ c, c < 127 ∧ f i = nI c) : Cn l E yX6_firstFault wsX6_firstFault (rmL 5 0 0) [.ref (q 0)] (tl) 0 0 (fun v w => v = some (.int (nI (ftF f n 31 0))) ∧ w = tl) := by
  refine Cn.of (own := RX6) (cc := cX6_firstFault) (maxL := 2) (ret := (some .int)) (lv := [(0, .ref (q 0))]) (by decide) rfl rfl (Nat.le_of_ble_eq_true rfl) rfl ?_
  intro p_ e_ s_ m_ args_ below_ meth_ c_ A_ P_ hp_ F hr_ hnm_
  have hf15_6 : Cond.fieldLink RX6 15 "KeyOnStreet$Page" (TX6 1).2.1 (TX6 1).2.2.1 ∈ wsX6_firstFault := by decide +kernel
  have hi6 : ∀ w ∈ u_ws RX6 TX6 2, w ∈ wsX6_firstFault := by decide +kernel
  have hf9_6 : Cond.fieldLink RX6 9 "KeyOnStreet$Page" (TX6 0).2.1 (TX6 0).2.2.1 ∈ wsX6_firstFault := by decide +kernel
  have hd_X6_fits : yX6_fits.cls ≠ "java/lang/invoke/MethodHandle" ∧ yX6_fits.cls ≠ "java/lang/invoke/VarHandle" ∧ (parseMethodDescriptor yX6_fits.desc).map (fun d => d.parameters.length) = some 2 := by decide +kernel
  refine q_iconst F dX6_firstFault_0 (v := nI 0) (by decide) ?_
  refine q_istore_n F (lv' := [(1, .int (nI 0)), (0, .ref (q 0))]) dX6_firstFault_1 (by decide) rfl ?_
  have lb2 : ∀ (fu : Nat) (i : Nat) (hi : i ≤ n) (hl : ftF f n (31 - i) i = ftF f n 31 0), n - i < fu → gW p_ l e_ (rmL 5 0 0) s_ m_ args_ below_ meth_ c_ E A_ 2 (MQ below_ (gQ E A_ P_) args_ s_ 0 0 A_) 2 [(0, .ref (q 0)), (1, .int (nI i))] [] (tl) 0 0 := by
    intro fu_2
    induction fu_2 with
    | zero => intro i hi hl hfu; exact absurd hfu (Nat.not_lt_zero _)
    | succ fu_2 ih_2 =>
      intro i hi hl hfu_2
      refine q_iload_n F 1 dX6_firstFault_2 rfl ?_
      refine q_aload_n F 0 dX6_firstFault_3 rfl ?_
      refine q_get F (ci := 6) (j := 1) (v := .int (nI n)) (hP _ (List.mem_of_getElem? (i := 0) rfl)) rfl hi6 (by decide) hf15_6 rfl rfl dX6_firstFault_4 ?_
      refine q_icmp_ge F (tgt := 31) dX6_firstFault_7 (by decide) (fun h_7 => ?_) (fun h_7 => ?_)
      · skip
        have hn_7 : i ≥ n := nf_ge_t (by omega) (by omega) h_7
        refine q_aload_n F 0 dX6_firstFault_31 rfl ?_
        refine q_get F (ci := 6) (j := 1) (v := .int (nI n)) (hP _ (List.mem_of_getElem? (i := 0) rfl)) rfl hi6 (by decide) hf15_6 rfl rfl dX6_firstFault_32 ?_
        refine q_iret F hr_ dX6_firstFault_35 (hp_ _ _ ⟨congrArg (fun z => some (Value.int z)) ?_, ?_⟩)
        · (have e : i = n := by omega); rw [← hl, e, ftF_n]
        · rfl
      · skip
        have hn_7 : i < n := nf_ge_f (by omega) (by omega) h_7
        refine q_iload_n F 1 dX6_firstFault_10 rfl ?_
        refine q_aload_n F 0 dX6_firstFault_11 rfl ?_
        refine q_get F (ci := 6) (j := 0) (v := .ref (q 1)) (hP _ (List.mem_of_getElem? (i := 0) rfl)) rfl hi6 (by decide) hf9_6 rfl rfl dX6_firstFault_12 ?_
        refine q_iload_n F 1 dX6_firstFault_15 rfl ?_
        refine q_iald F (f := f) (hP _ (List.mem_of_getElem? (i := 1) rfl)) i rfl (by omega) (by decide) dX6_firstFault_16 ?_
        obtain ⟨c, hc1, hc2⟩ := hc i (by omega)
        refine q_toi (nI c) hc2 ?_
        refine q_callS F (As := [.int (nI i), .int (nI c)]) (rest := []) (c_X6_fits l E tl i (by omega) c hc1) (List.Perm.refl _) gX6_firstFault_X6_fits rfl rfl rfl hd_X6_fits ⟨by decide, by decide⟩ rfl (Nat.le_of_ble_eq_true rfl) dX6_firstFault_17 ⟨Nat.le_of_ble_eq_true rfl, Nat.le_of_ble_eq_true rfl⟩ (fun v_ w_ hvw => ?_)
        rw [hvw.1, hvw.2]
        clear hvw
        refine q_at (pc' := 20) (st' := [.int (bI (gdF i (nI c)))]) (ws' := tl) (k' := 0) (n' := 0) rfl rfl rfl rfl rfl ?_
        refine q_if_ne F (tgt := 25) dX6_firstFault_20 (by decide) (fun h_20 => ?_) (fun h_20 => ?_)
        · skip
          have hb_20 := bI_1 h_20
          refine q_iinc F 1 (v := nI (i + 1)) (lv' := [(1, .int (nI (i + 1))), (0, .ref (q 0))]) dX6_firstFault_25 rfl (nI_1 _) (by decide) rfl ?_
          refine q_goto F (tgt := 2) dX6_firstFault_28 (by decide) ?_
          refine q_lv [1, 0] (lv' := [(0, .ref (q 0)), (1, .int (nI (i + 1)))]) rfl ?_
          refine q_to (lv' := [(0, .ref (q 0)), (1, .int (nI (i + 1)))]) (st' := []) (ws' := tl) rfl rfl rfl ?_
          exact ih_2 (i + 1) (by omega) (by rw [← hl, show 31 - i = (31 - (i + 1)) + 1 by omega, ftF, if_pos ⟨by omega, by rw [hc2]; exact hb_20⟩]) (by omega)
        · skip
          have hb_20 := bI_0 h_20
          refine q_iload_n F 1 dX6_firstFault_23 rfl ?_
          refine q_iret F hr_ dX6_firstFault_24 (hp_ _ _ ⟨congrArg (fun z => some (Value.int z)) ?_, ?_⟩)
          · rw [← hl, show 31 - i = (31 - (i + 1)) + 1 by omega, ftF, if_neg (fun z => by have z2 := z.2; rw [hc2, hb_20] at z2; exact absurd z2 (by decide))]
          · rfl
  refine q_lv [1, 0] (lv' := [(0, .ref (q 0)), (1, .int (nI 0))]) rfl ?_
  refine q_to (lv' := [(0, .ref (q 0)), (1, .int (nI 0))]) (st' := []) (ws' := tl) rfl rfl rfl ?_
  exact lb2 (n - 0 + 1) 0 (by omega) (rfl) (Nat.lt_succ_self _)

set_option maxHeartbeats 4000000 in
set_option maxRecDepth 100000 in
theorem c_X6_tellsTown (l : Launch) (E : gEnv) (q : Nat → Nat) (n : Nat) (f : Nat → Int32) (tl : va_W) (hP : isIn (pC E q n f) tl) (hn : n ≤ 30) (hc : ∀ i, i < n → ∃ c, c < 127 ∧ f i = nI c) : Cn l E yX6_tellsTown wsX6_tellsTown (rmL 6 0 0) [.ref (q 0)] (tl) 0 0 (fun v w => v = some (.int (bI (decide (n % 5 = 4 ∧ 14 ≤ n ∧ ftF f n 31 0 = n)))) ∧ w = tl) := by
  refine Cn.of (own := RX6) (cc := cX6_tellsTown) (maxL := 2) (ret := (some .boolean)) (lv := [(0, .ref (q 0))]) (by decide) rfl rfl (Nat.le_of_ble_eq_true rfl) rfl ?_
  intro p_ e_ s_ m_ args_ below_ meth_ c_ A_ P_ hp_ F hr_ hnm_
  have hf15_6 : Cond.fieldLink RX6 15 "KeyOnStreet$Page" (TX6 1).2.1 (TX6 1).2.2.1 ∈ wsX6_tellsTown := by decide +kernel
  have hi6 : ∀ w ∈ u_ws RX6 TX6 2, w ∈ wsX6_tellsTown := by decide +kernel
  have hd_X6_housesTold : yX6_housesTold.cls = RX6 ∧ yX6_housesTold.cls ≠ "java/lang/invoke/MethodHandle" ∧ yX6_housesTold.cls ≠ "java/lang/invoke/VarHandle" ∧ (parseMethodDescriptor yX6_housesTold.desc).map (fun d => d.parameters.length) = some 0 := by decide +kernel
  have hd_X6_firstFault : yX6_firstFault.cls = RX6 ∧ yX6_firstFault.cls ≠ "java/lang/invoke/MethodHandle" ∧ yX6_firstFault.cls ≠ "java/lang/invoke/VarHandle" ∧ (parseMethodDescriptor yX6_firstFault.desc).map (fun d => d.parameters.length) = some 0 := by decide +kernel
  have hft := ftF_le f n 31 0
  refine q_aload_n F 0 dX6_tellsTown_0 rfl ?_
  refine q_get F (ci := 6) (j := 1) (v := .int (nI n)) (hP _ (List.mem_of_getElem? (i := 0) rfl)) rfl hi6 (by decide) hf15_6 rfl rfl dX6_tellsTown_1 ?_
  refine q_iconst F dX6_tellsTown_4 (v := nI 5) (by decide) ?_
  refine q_irem F dX6_tellsTown_5 (nI_ne0 (by omega) (by omega)) ?_
  refine q_toi (nI (n % 5)) (pk_rem (by omega) (by omega) (by omega)) ?_
  refine q_iconst F dX6_tellsTown_6 (v := nI 4) (by decide) ?_
  refine q_icmp_ne F (tgt := 14) dX6_tellsTown_7 (by decide) (fun h_7 => ?_) (fun h_7 => ?_)
  · skip
    have hn_7 : (n % 5) ≠ 4 := nf_ne_t (by omega) (by omega) h_7
    refine q_iconst F dX6_tellsTown_14 (v := nI 0) (by decide) ?_
    refine q_istore_n F (lv' := [(1, .int (nI 0)), (0, .ref (q 0))]) dX6_tellsTown_15 (by decide) rfl ?_
    refine q_iload_n F 0 dX6_tellsTown_16 rfl ?_
    refine q_if_eq F (tgt := 43) dX6_tellsTown_17 (by decide) (fun h_17 => ?_) (fun h_17 => ?_)
    · skip
      refine q_iconst F dX6_tellsTown_43 (v := nI 0) (by decide) ?_
      refine q_zret F hr_ (by decide) dX6_tellsTown_44 (hp_ _ _ ⟨congrArg (fun z => some (Value.int z)) ?_, ?_⟩)
      · rw [decide_eq_false (by omega)]; rfl
      · rfl
    · skip
      exact absurd h_17 (by decide)
  · skip
    have hn_7 : (n % 5) = 4 := nf_ne_f (by omega) (by omega) h_7
    refine q_iconst F dX6_tellsTown_10 (v := nI 1) (by decide) ?_
    refine q_goto F (tgt := 15) dX6_tellsTown_11 (by decide) ?_
    refine q_istore_n F (lv' := [(1, .int (nI 1)), (0, .ref (q 0))]) dX6_tellsTown_15 (by decide) rfl ?_
    refine q_iload_n F 0 dX6_tellsTown_16 rfl ?_
    refine q_if_eq F (tgt := 43) dX6_tellsTown_17 (by decide) (fun h_17 => ?_) (fun h_17 => ?_)
    · skip
      exact absurd h_17 (by decide)
    · skip
      refine q_aload_n F 1 dX6_tellsTown_20 rfl ?_
      refine q_callV F (ci := 6) (As := []) (rest := []) (hP _ (List.mem_of_getElem? (i := 0) rfl)) rfl (c_X6_housesTold l E q n f tl hP hn) (List.Perm.refl _) gX6_tellsTown_X6_housesTold rfl rfl rfl hd_X6_housesTold ⟨by decide, by decide⟩ rfl (Nat.le_of_ble_eq_true rfl) dX6_tellsTown_21 ⟨Nat.le_of_ble_eq_true rfl, Nat.le_of_ble_eq_true rfl⟩ (fun v_ w_ hvw => ?_)
      rw [hvw.1, hvw.2]
      clear hvw
      refine q_at (pc' := 24) (st' := [.int (nI ((n + 1) / 5))]) (ws' := tl) (k' := 0) (n' := 0) rfl rfl rfl rfl rfl ?_
      refine q_iconst F dX6_tellsTown_24 (v := nI 3) (by decide) ?_
      refine q_icmp_lt F (tgt := 43) dX6_tellsTown_25 (by decide) (fun h_25 => ?_) (fun h_25 => ?_)
      · skip
        have hn_25 : ((n + 1) / 5) < 3 := nf_lt_t (by omega) (by omega) h_25
        refine q_iconst F dX6_tellsTown_43 (v := nI 0) (by decide) ?_
        refine q_zret F hr_ (by decide) dX6_tellsTown_44 (hp_ _ _ ⟨congrArg (fun z => some (Value.int z)) ?_, ?_⟩)
        · rw [decide_eq_false (by omega)]; rfl
        · rfl
      · skip
        have hn_25 : ((n + 1) / 5) ≥ 3 := nf_lt_f (by omega) (by omega) h_25
        refine q_aload_n F 1 dX6_tellsTown_28 rfl ?_
        refine q_callV F (ci := 6) (As := []) (rest := []) (hP _ (List.mem_of_getElem? (i := 0) rfl)) rfl (c_X6_firstFault l E q n f tl hP hn hc) (List.Perm.refl _) gX6_tellsTown_X6_firstFault rfl rfl rfl hd_X6_firstFault ⟨by decide, by decide⟩ rfl (Nat.le_of_ble_eq_true rfl) dX6_tellsTown_29 ⟨Nat.le_of_ble_eq_true rfl, Nat.le_of_ble_eq_true rfl⟩ (fun v_ w_ hvw => ?_)
        rw [hvw.1, hvw.2]
        clear hvw
        refine q_at (pc' := 32) (st' := [.int (nI (ftF f n 31 0))]) (ws' := tl) (k' := 0) (n' := 0) rfl rfl rfl rfl rfl ?_
        refine q_aload_n F 1 dX6_tellsTown_32 rfl ?_
        refine q_get F (ci := 6) (j := 1) (v := .int (nI n)) (hP _ (List.mem_of_getElem? (i := 0) rfl)) rfl hi6 (by decide) hf15_6 rfl rfl dX6_tellsTown_33 ?_
        refine q_icmp_ne F (tgt := 43) dX6_tellsTown_36 (by decide) (fun h_36 => ?_) (fun h_36 => ?_)
        · skip
          have hn_36 : (ftF f n 31 0) ≠ n := nf_ne_t (by omega) (by omega) h_36
          refine q_iconst F dX6_tellsTown_43 (v := nI 0) (by decide) ?_
          refine q_zret F hr_ (by decide) dX6_tellsTown_44 (hp_ _ _ ⟨congrArg (fun z => some (Value.int z)) ?_, ?_⟩)
          · rw [decide_eq_false (by omega)]; rfl
          · rfl
        · skip
          have hn_36 : (ftF f n 31 0) = n := nf_ne_f (by omega) (by omega) h_36
          refine q_iconst F dX6_tellsTown_39 (v := nI 1) (by decide) ?_
          refine q_goto F (tgt := 44) dX6_tellsTown_40 (by decide) ?_
          refine q_zret F hr_ (by decide) dX6_tellsTown_44 (hp_ _ _ ⟨congrArg (fun z => some (Value.int z)) ?_, ?_⟩)
          · rw [decide_eq_true (by omega)]; rfl
          · rfl

set_option maxHeartbeats 4000000 in
set_option maxRecDepth 100000 in
theorem c_X0_init_0 (l : Launch) (E : gEnv) (q : Nat) (x0 y0 z0 x y z : Int32) (tl : va_W) : Cn l E yX0_init wsX0_init (rmL 1 0 0) [.ref q, .int x, .int y, .int z] (oV q 0 ([.int x0, .int y0, .int z0]) ++ tl) 0 0 (fun v w => v = none ∧ w = oV q 0 [.int x, .int y, .int z] ++ tl) := by
  refine Cn.of (own := RX0) (cc := cX0_init) (maxL := 4) (ret := none) (lv := [(0, .ref q), (1, .int x), (2, .int y), (3, .int z)]) (by decide) rfl rfl (Nat.le_of_ble_eq_true rfl) rfl ?_
  intro p_ e_ s_ m_ args_ below_ meth_ c_ A_ P_ hp_ F hr_ hnm_
  have ho_0 : Cond.methodLink RX0 1 Lib.objectInit ∈ wsX0_init := by decide +kernel
  have ho_1 : Cond.instanceMethod Lib.objectInit ∈ wsX0_init := by decide +kernel
  have ho_2 : Cond.code Lib.objectInit ⟨#[0xb1]⟩ 1 none ∈ wsX0_init := by decide +kernel
  have hf7_0 : Cond.fieldLink RX0 7 "KeyOnStreet$House" (TX0 0).2.1 (TX0 0).2.2.1 ∈ wsX0_init := by decide +kernel
  have hi0 : ∀ w ∈ u_ws RX0 TX0 3, w ∈ wsX0_init := by decide +kernel
  have hf13_0 : Cond.fieldLink RX0 13 "KeyOnStreet$House" (TX0 1).2.1 (TX0 1).2.2.1 ∈ wsX0_init := by decide +kernel
  have hf16_0 : Cond.fieldLink RX0 16 "KeyOnStreet$House" (TX0 2).2.1 (TX0 2).2.2.1 ∈ wsX0_init := by decide +kernel
  refine q_aload_n F 0 dX0_init_0 rfl ?_
  refine q_objInit F ho_0 ho_1 ho_2 (by decide) (Nat.le_of_ble_eq_true rfl) dX0_init_1 ?_
  refine q_aload_n F 0 dX0_init_4 rfl ?_
  refine q_iload_n F 1 dX0_init_5 rfl ?_
  refine q_putF F (j := 0) 0 rfl rfl hi0 tyX0 tyX0_ok nmX0 (by decide) hf7_0 rfl rfl hnm_ rfl rfl rfl (Nat.le_of_ble_eq_true rfl) dX0_init_6 (ws' := oV q 0 ([.int x, .int y0, .int z0]) ++ tl) rfl ?_
  refine q_aload_n F 0 dX0_init_9 rfl ?_
  refine q_iload_n F 2 dX0_init_10 rfl ?_
  refine q_putF F (j := 1) 0 rfl rfl hi0 tyX0 tyX0_ok nmX0 (by decide) hf13_0 rfl rfl hnm_ rfl rfl rfl (Nat.le_of_ble_eq_true rfl) dX0_init_11 (ws' := oV q 0 ([.int x, .int y, .int z0]) ++ tl) rfl ?_
  refine q_aload_n F 0 dX0_init_14 rfl ?_
  refine q_iload_n F 3 dX0_init_15 rfl ?_
  refine q_putF F (j := 2) 0 rfl rfl hi0 tyX0 tyX0_ok nmX0 (by decide) hf16_0 rfl rfl hnm_ rfl rfl rfl (Nat.le_of_ble_eq_true rfl) dX0_init_16 (ws' := oV q 0 ([.int x, .int y, .int z]) ++ tl) rfl ?_
  refine q_vret F hr_ dX0_init_19 (hp_ _ _ ⟨rfl, ?_⟩)
  rfl

set_option maxHeartbeats 4000000 in
set_option maxRecDepth 100000 in
theorem c_X0_init_1 (l : Launch) (E : gEnv) (q : Nat) (x0 y0 z0 x y z : Int32) (tl : va_W) : Cn l E yX0_init wsX0_init (rmL 1 0 0) [.ref q, .int x, .int y, .int z] (oV q 1 ([.int x0, .int y0, .int z0]) ++ tl) 0 0 (fun v w => v = none ∧ w = oV q 1 [.int x, .int y, .int z] ++ tl) := by
  refine Cn.of (own := RX0) (cc := cX0_init) (maxL := 4) (ret := none) (lv := [(0, .ref q), (1, .int x), (2, .int y), (3, .int z)]) (by decide) rfl rfl (Nat.le_of_ble_eq_true rfl) rfl ?_
  intro p_ e_ s_ m_ args_ below_ meth_ c_ A_ P_ hp_ F hr_ hnm_
  have ho_0 : Cond.methodLink RX0 1 Lib.objectInit ∈ wsX0_init := by decide +kernel
  have ho_1 : Cond.instanceMethod Lib.objectInit ∈ wsX0_init := by decide +kernel
  have ho_2 : Cond.code Lib.objectInit ⟨#[0xb1]⟩ 1 none ∈ wsX0_init := by decide +kernel
  have hf7_1 : Cond.fieldLink RX0 7 "KeyOnStreet$House" (TX1 0).2.1 (TX1 0).2.2.1 ∈ wsX0_init := by decide +kernel
  have hi1 : ∀ w ∈ u_ws RX1 TX1 3, w ∈ wsX0_init := by decide +kernel
  have hf13_1 : Cond.fieldLink RX0 13 "KeyOnStreet$House" (TX1 1).2.1 (TX1 1).2.2.1 ∈ wsX0_init := by decide +kernel
  have hf16_1 : Cond.fieldLink RX0 16 "KeyOnStreet$House" (TX1 2).2.1 (TX1 2).2.2.1 ∈ wsX0_init := by decide +kernel
  refine q_aload_n F 0 dX0_init_0 rfl ?_
  refine q_objInit F ho_0 ho_1 ho_2 (by decide) (Nat.le_of_ble_eq_true rfl) dX0_init_1 ?_
  refine q_aload_n F 0 dX0_init_4 rfl ?_
  refine q_iload_n F 1 dX0_init_5 rfl ?_
  refine q_putF F (j := 0) 0 rfl rfl hi1 tyX1 tyX1_ok nmX1 (by decide) hf7_1 rfl rfl hnm_ rfl rfl rfl (Nat.le_of_ble_eq_true rfl) dX0_init_6 (ws' := oV q 1 ([.int x, .int y0, .int z0]) ++ tl) rfl ?_
  refine q_aload_n F 0 dX0_init_9 rfl ?_
  refine q_iload_n F 2 dX0_init_10 rfl ?_
  refine q_putF F (j := 1) 0 rfl rfl hi1 tyX1 tyX1_ok nmX1 (by decide) hf13_1 rfl rfl hnm_ rfl rfl rfl (Nat.le_of_ble_eq_true rfl) dX0_init_11 (ws' := oV q 1 ([.int x, .int y, .int z0]) ++ tl) rfl ?_
  refine q_aload_n F 0 dX0_init_14 rfl ?_
  refine q_iload_n F 3 dX0_init_15 rfl ?_
  refine q_putF F (j := 2) 0 rfl rfl hi1 tyX1 tyX1_ok nmX1 (by decide) hf16_1 rfl rfl hnm_ rfl rfl rfl (Nat.le_of_ble_eq_true rfl) dX0_init_16 (ws' := oV q 1 ([.int x, .int y, .int z]) ++ tl) rfl ?_
  refine q_vret F hr_ dX0_init_19 (hp_ _ _ ⟨rfl, ?_⟩)
  rfl

set_option maxHeartbeats 4000000 in
set_option maxRecDepth 100000 in
theorem c_X0_init_3 (l : Launch) (E : gEnv) (q : Nat) (x0 y0 z0 x y z : Int32) (tl : va_W) : Cn l E yX0_init wsX0_init (rmL 1 0 0) [.ref q, .int x, .int y, .int z] (oV q 3 ([.int x0, .int y0, .int z0]) ++ tl) 0 0 (fun v w => v = none ∧ w = oV q 3 [.int x, .int y, .int z] ++ tl) := by
  refine Cn.of (own := RX0) (cc := cX0_init) (maxL := 4) (ret := none) (lv := [(0, .ref q), (1, .int x), (2, .int y), (3, .int z)]) (by decide) rfl rfl (Nat.le_of_ble_eq_true rfl) rfl ?_
  intro p_ e_ s_ m_ args_ below_ meth_ c_ A_ P_ hp_ F hr_ hnm_
  have ho_0 : Cond.methodLink RX0 1 Lib.objectInit ∈ wsX0_init := by decide +kernel
  have ho_1 : Cond.instanceMethod Lib.objectInit ∈ wsX0_init := by decide +kernel
  have ho_2 : Cond.code Lib.objectInit ⟨#[0xb1]⟩ 1 none ∈ wsX0_init := by decide +kernel
  have hf7_3 : Cond.fieldLink RX0 7 "KeyOnStreet$House" (TX3 0).2.1 (TX3 0).2.2.1 ∈ wsX0_init := by decide +kernel
  have hi3 : ∀ w ∈ u_ws RX3 TX3 3, w ∈ wsX0_init := by decide +kernel
  have hf13_3 : Cond.fieldLink RX0 13 "KeyOnStreet$House" (TX3 1).2.1 (TX3 1).2.2.1 ∈ wsX0_init := by decide +kernel
  have hf16_3 : Cond.fieldLink RX0 16 "KeyOnStreet$House" (TX3 2).2.1 (TX3 2).2.2.1 ∈ wsX0_init := by decide +kernel
  refine q_aload_n F 0 dX0_init_0 rfl ?_
  refine q_objInit F ho_0 ho_1 ho_2 (by decide) (Nat.le_of_ble_eq_true rfl) dX0_init_1 ?_
  refine q_aload_n F 0 dX0_init_4 rfl ?_
  refine q_iload_n F 1 dX0_init_5 rfl ?_
  refine q_putF F (j := 0) 0 rfl rfl hi3 tyX3 tyX3_ok nmX3 (by decide) hf7_3 rfl rfl hnm_ rfl rfl rfl (Nat.le_of_ble_eq_true rfl) dX0_init_6 (ws' := oV q 3 ([.int x, .int y0, .int z0]) ++ tl) rfl ?_
  refine q_aload_n F 0 dX0_init_9 rfl ?_
  refine q_iload_n F 2 dX0_init_10 rfl ?_
  refine q_putF F (j := 1) 0 rfl rfl hi3 tyX3 tyX3_ok nmX3 (by decide) hf13_3 rfl rfl hnm_ rfl rfl rfl (Nat.le_of_ble_eq_true rfl) dX0_init_11 (ws' := oV q 3 ([.int x, .int y, .int z0]) ++ tl) rfl ?_
  refine q_aload_n F 0 dX0_init_14 rfl ?_
  refine q_iload_n F 3 dX0_init_15 rfl ?_
  refine q_putF F (j := 2) 0 rfl rfl hi3 tyX3 tyX3_ok nmX3 (by decide) hf16_3 rfl rfl hnm_ rfl rfl rfl (Nat.le_of_ble_eq_true rfl) dX0_init_16 (ws' := oV q 3 ([.int x, .int y, .int z]) ++ tl) rfl ?_
  refine q_vret F hr_ dX0_init_19 (hp_ _ _ ⟨rfl, ?_⟩)
  rfl

set_option maxHeartbeats 4000000 in
set_option maxRecDepth 100000 in
theorem c_X0_init_4 (l : Launch) (E : gEnv) (q : Nat) (x0 y0 z0 x y z : Int32) (tl : va_W) : Cn l E yX0_init wsX0_init (rmL 1 0 0) [.ref q, .int x, .int y, .int z] (oV q 4 ([.int x0, .int y0, .int z0]) ++ tl) 0 0 (fun v w => v = none ∧ w = oV q 4 [.int x, .int y, .int z] ++ tl) := by
  refine Cn.of (own := RX0) (cc := cX0_init) (maxL := 4) (ret := none) (lv := [(0, .ref q), (1, .int x), (2, .int y), (3, .int z)]) (by decide) rfl rfl (Nat.le_of_ble_eq_true rfl) rfl ?_
  intro p_ e_ s_ m_ args_ below_ meth_ c_ A_ P_ hp_ F hr_ hnm_
  have ho_0 : Cond.methodLink RX0 1 Lib.objectInit ∈ wsX0_init := by decide +kernel
  have ho_1 : Cond.instanceMethod Lib.objectInit ∈ wsX0_init := by decide +kernel
  have ho_2 : Cond.code Lib.objectInit ⟨#[0xb1]⟩ 1 none ∈ wsX0_init := by decide +kernel
  have hf7_4 : Cond.fieldLink RX0 7 "KeyOnStreet$House" (TX4 0).2.1 (TX4 0).2.2.1 ∈ wsX0_init := by decide +kernel
  have hi4 : ∀ w ∈ u_ws RX4 TX4 3, w ∈ wsX0_init := by decide +kernel
  have hf13_4 : Cond.fieldLink RX0 13 "KeyOnStreet$House" (TX4 1).2.1 (TX4 1).2.2.1 ∈ wsX0_init := by decide +kernel
  have hf16_4 : Cond.fieldLink RX0 16 "KeyOnStreet$House" (TX4 2).2.1 (TX4 2).2.2.1 ∈ wsX0_init := by decide +kernel
  refine q_aload_n F 0 dX0_init_0 rfl ?_
  refine q_objInit F ho_0 ho_1 ho_2 (by decide) (Nat.le_of_ble_eq_true rfl) dX0_init_1 ?_
  refine q_aload_n F 0 dX0_init_4 rfl ?_
  refine q_iload_n F 1 dX0_init_5 rfl ?_
  refine q_putF F (j := 0) 0 rfl rfl hi4 tyX4 tyX4_ok nmX4 (by decide) hf7_4 rfl rfl hnm_ rfl rfl rfl (Nat.le_of_ble_eq_true rfl) dX0_init_6 (ws' := oV q 4 ([.int x, .int y0, .int z0]) ++ tl) rfl ?_
  refine q_aload_n F 0 dX0_init_9 rfl ?_
  refine q_iload_n F 2 dX0_init_10 rfl ?_
  refine q_putF F (j := 1) 0 rfl rfl hi4 tyX4 tyX4_ok nmX4 (by decide) hf13_4 rfl rfl hnm_ rfl rfl rfl (Nat.le_of_ble_eq_true rfl) dX0_init_11 (ws' := oV q 4 ([.int x, .int y, .int z0]) ++ tl) rfl ?_
  refine q_aload_n F 0 dX0_init_14 rfl ?_
  refine q_iload_n F 3 dX0_init_15 rfl ?_
  refine q_putF F (j := 2) 0 rfl rfl hi4 tyX4 tyX4_ok nmX4 (by decide) hf16_4 rfl rfl hnm_ rfl rfl rfl (Nat.le_of_ble_eq_true rfl) dX0_init_16 (ws' := oV q 4 ([.int x, .int y, .int z]) ++ tl) rfl ?_
  refine q_vret F hr_ dX0_init_19 (hp_ _ _ ⟨rfl, ?_⟩)
  rfl

set_option maxHeartbeats 4000000 in
set_option maxRecDepth 100000 in
theorem c_X0_init_9 (l : Launch) (E : gEnv) (q : Nat) (x0 y0 z0 x y z : Int32) (tl : va_W) : Cn l E yX0_init wsX0_init (rmL 1 0 0) [.ref q, .int x, .int y, .int z] (oV q 9 ([.int x0, .int y0, .int z0]) ++ tl) 0 0 (fun v w => v = none ∧ w = oV q 9 [.int x, .int y, .int z] ++ tl) := by
  refine Cn.of (own := RX0) (cc := cX0_init) (maxL := 4) (ret := none) (lv := [(0, .ref q), (1, .int x), (2, .int y), (3, .int z)]) (by decide) rfl rfl (Nat.le_of_ble_eq_true rfl) rfl ?_
  intro p_ e_ s_ m_ args_ below_ meth_ c_ A_ P_ hp_ F hr_ hnm_
  have ho_0 : Cond.methodLink RX0 1 Lib.objectInit ∈ wsX0_init := by decide +kernel
  have ho_1 : Cond.instanceMethod Lib.objectInit ∈ wsX0_init := by decide +kernel
  have ho_2 : Cond.code Lib.objectInit ⟨#[0xb1]⟩ 1 none ∈ wsX0_init := by decide +kernel
  have hf7_9 : Cond.fieldLink RX0 7 "KeyOnStreet$House" (TX9 0).2.1 (TX9 0).2.2.1 ∈ wsX0_init := by decide +kernel
  have hi9 : ∀ w ∈ u_ws RX9 TX9 3, w ∈ wsX0_init := by decide +kernel
  have hf13_9 : Cond.fieldLink RX0 13 "KeyOnStreet$House" (TX9 1).2.1 (TX9 1).2.2.1 ∈ wsX0_init := by decide +kernel
  have hf16_9 : Cond.fieldLink RX0 16 "KeyOnStreet$House" (TX9 2).2.1 (TX9 2).2.2.1 ∈ wsX0_init := by decide +kernel
  refine q_aload_n F 0 dX0_init_0 rfl ?_
  refine q_objInit F ho_0 ho_1 ho_2 (by decide) (Nat.le_of_ble_eq_true rfl) dX0_init_1 ?_
  refine q_aload_n F 0 dX0_init_4 rfl ?_
  refine q_iload_n F 1 dX0_init_5 rfl ?_
  refine q_putF F (j := 0) 0 rfl rfl hi9 tyX9 tyX9_ok nmX9 (by decide) hf7_9 rfl rfl hnm_ rfl rfl rfl (Nat.le_of_ble_eq_true rfl) dX0_init_6 (ws' := oV q 9 ([.int x, .int y0, .int z0]) ++ tl) rfl ?_
  refine q_aload_n F 0 dX0_init_9 rfl ?_
  refine q_iload_n F 2 dX0_init_10 rfl ?_
  refine q_putF F (j := 1) 0 rfl rfl hi9 tyX9 tyX9_ok nmX9 (by decide) hf13_9 rfl rfl hnm_ rfl rfl rfl (Nat.le_of_ble_eq_true rfl) dX0_init_11 (ws' := oV q 9 ([.int x, .int y, .int z0]) ++ tl) rfl ?_
  refine q_aload_n F 0 dX0_init_14 rfl ?_
  refine q_iload_n F 3 dX0_init_15 rfl ?_
  refine q_putF F (j := 2) 0 rfl rfl hi9 tyX9 tyX9_ok nmX9 (by decide) hf16_9 rfl rfl hnm_ rfl rfl rfl (Nat.le_of_ble_eq_true rfl) dX0_init_16 (ws' := oV q 9 ([.int x, .int y, .int z]) ++ tl) rfl ?_
  refine q_vret F hr_ dX0_init_19 (hp_ _ _ ⟨rfl, ?_⟩)
  rfl

set_option maxHeartbeats 4000000 in
set_option maxRecDepth 100000 in
theorem c_X9_init_3 (l : Launch) (E : gEnv) (q : Nat) (x0 y0 z0 x y z : Int32) (tl : va_W) : Cn l E yX9_init wsX9_init (rmL 2 0 0) [.ref q, .int x, .int y, .int z] (oV q 3 ([.int x0, .int y0, .int z0]) ++ tl) 0 0 (fun v w => v = none ∧ w = oV q 3 [.int x, .int y, .int z] ++ tl) := by
  refine Cn.of (own := RX9) (cc := cX9_init) (maxL := 4) (ret := none) (lv := [(0, .ref q), (1, .int x), (2, .int y), (3, .int z)]) (by decide) rfl rfl (Nat.le_of_ble_eq_true rfl) rfl ?_
  intro p_ e_ s_ m_ args_ below_ meth_ c_ A_ P_ hp_ F hr_ hnm_
  have hd_X0_init : yX0_init.cls ≠ "java/lang/invoke/MethodHandle" ∧ yX0_init.cls ≠ "java/lang/invoke/VarHandle" ∧ (parseMethodDescriptor yX0_init.desc).map (fun d => d.parameters.length) = some 3 := by decide +kernel
  have hini_X0_init : Cond.initialized yX0_init.cls ∈ wsX9_init := by decide +kernel
  have hinm_X0_init : Cond.instanceMethod yX0_init ∈ wsX9_init := by decide +kernel
  have hlk_1 : Cond.methodLink RX9 1 yX0_init ∈ wsX9_init := by decide +kernel
  refine q_aload_n F 0 dX9_init_0 rfl ?_
  refine q_iload_n F 1 dX9_init_1 rfl ?_
  refine q_iload_n F 2 dX9_init_2 rfl ?_
  refine q_iload_n F 3 dX9_init_3 rfl ?_
  refine q_callI F (As := [.int x, .int y, .int z]) (rest := []) (c_X0_init_3 l E q x0 y0 z0 x y z tl) (List.Perm.refl _) gX9_init_X0_init rfl rfl rfl hini_X0_init hlk_1 hinm_X0_init rfl hd_X0_init ⟨by decide, by decide⟩ rfl (Nat.le_of_ble_eq_true rfl) dX9_init_4 ⟨Nat.le_of_ble_eq_true rfl, Nat.le_of_ble_eq_true rfl⟩ (fun v_ w_ hvw => ?_)
  rw [hvw.1, hvw.2]
  clear hvw
  refine q_at (pc' := 7) (st' := []) (ws' := oV q 3 ([.int x, .int y, .int z]) ++ tl) (k' := 0) (n' := 0) rfl rfl rfl rfl rfl ?_
  refine q_vret F hr_ dX9_init_7 (hp_ _ _ ⟨rfl, ?_⟩)
  rfl

set_option maxHeartbeats 4000000 in
set_option maxRecDepth 100000 in
theorem c_X9_init_9 (l : Launch) (E : gEnv) (q : Nat) (x0 y0 z0 x y z : Int32) (tl : va_W) : Cn l E yX9_init wsX9_init (rmL 2 0 0) [.ref q, .int x, .int y, .int z] (oV q 9 ([.int x0, .int y0, .int z0]) ++ tl) 0 0 (fun v w => v = none ∧ w = oV q 9 [.int x, .int y, .int z] ++ tl) := by
  refine Cn.of (own := RX9) (cc := cX9_init) (maxL := 4) (ret := none) (lv := [(0, .ref q), (1, .int x), (2, .int y), (3, .int z)]) (by decide) rfl rfl (Nat.le_of_ble_eq_true rfl) rfl ?_
  intro p_ e_ s_ m_ args_ below_ meth_ c_ A_ P_ hp_ F hr_ hnm_
  have hd_X0_init : yX0_init.cls ≠ "java/lang/invoke/MethodHandle" ∧ yX0_init.cls ≠ "java/lang/invoke/VarHandle" ∧ (parseMethodDescriptor yX0_init.desc).map (fun d => d.parameters.length) = some 3 := by decide +kernel
  have hini_X0_init : Cond.initialized yX0_init.cls ∈ wsX9_init := by decide +kernel
  have hinm_X0_init : Cond.instanceMethod yX0_init ∈ wsX9_init := by decide +kernel
  have hlk_1 : Cond.methodLink RX9 1 yX0_init ∈ wsX9_init := by decide +kernel
  refine q_aload_n F 0 dX9_init_0 rfl ?_
  refine q_iload_n F 1 dX9_init_1 rfl ?_
  refine q_iload_n F 2 dX9_init_2 rfl ?_
  refine q_iload_n F 3 dX9_init_3 rfl ?_
  refine q_callI F (As := [.int x, .int y, .int z]) (rest := []) (c_X0_init_9 l E q x0 y0 z0 x y z tl) (List.Perm.refl _) gX9_init_X0_init rfl rfl rfl hini_X0_init hlk_1 hinm_X0_init rfl hd_X0_init ⟨by decide, by decide⟩ rfl (Nat.le_of_ble_eq_true rfl) dX9_init_4 ⟨Nat.le_of_ble_eq_true rfl, Nat.le_of_ble_eq_true rfl⟩ (fun v_ w_ hvw => ?_)
  rw [hvw.1, hvw.2]
  clear hvw
  refine q_at (pc' := 7) (st' := []) (ws' := oV q 9 ([.int x, .int y, .int z]) ++ tl) (k' := 0) (n' := 0) rfl rfl rfl rfl rfl ?_
  refine q_vret F hr_ dX9_init_7 (hp_ _ _ ⟨rfl, ?_⟩)
  rfl

set_option maxHeartbeats 4000000 in
set_option maxRecDepth 100000 in
theorem c_X1_init (l : Launch) (E : gEnv) (q : Nat) (x0 y0 z0 x y z : Int32) (tl : va_W) : Cn l E yX1_init wsX1_init (rmL 2 0 0) [.ref q, .int x, .int y, .int z] (oV q 1 ([.int x0, .int y0, .int z0]) ++ tl) 0 0 (fun v w => v = none ∧ w = oV q 1 [.int x, .int y, .int z] ++ tl) := by
  refine Cn.of (own := RX1) (cc := cX1_init) (maxL := 4) (ret := none) (lv := [(0, .ref q), (1, .int x), (2, .int y), (3, .int z)]) (by decide) rfl rfl (Nat.le_of_ble_eq_true rfl) rfl ?_
  intro p_ e_ s_ m_ args_ below_ meth_ c_ A_ P_ hp_ F hr_ hnm_
  have hd_X0_init : yX0_init.cls ≠ "java/lang/invoke/MethodHandle" ∧ yX0_init.cls ≠ "java/lang/invoke/VarHandle" ∧ (parseMethodDescriptor yX0_init.desc).map (fun d => d.parameters.length) = some 3 := by decide +kernel
  have hini_X0_init : Cond.initialized yX0_init.cls ∈ wsX1_init := by decide +kernel
  have hinm_X0_init : Cond.instanceMethod yX0_init ∈ wsX1_init := by decide +kernel
  have hlk_1 : Cond.methodLink RX1 1 yX0_init ∈ wsX1_init := by decide +kernel
  refine q_aload_n F 0 dX1_init_0 rfl ?_
  refine q_iload_n F 1 dX1_init_1 rfl ?_
  refine q_iload_n F 2 dX1_init_2 rfl ?_
  refine q_iload_n F 3 dX1_init_3 rfl ?_
  refine q_callI F (As := [.int x, .int y, .int z]) (rest := []) (c_X0_init_1 l E q x0 y0 z0 x y z tl) (List.Perm.refl _) gX1_init_X0_init rfl rfl rfl hini_X0_init hlk_1 hinm_X0_init rfl hd_X0_init ⟨by decide, by decide⟩ rfl (Nat.le_of_ble_eq_true rfl) dX1_init_4 ⟨Nat.le_of_ble_eq_true rfl, Nat.le_of_ble_eq_true rfl⟩ (fun v_ w_ hvw => ?_)
  rw [hvw.1, hvw.2]
  clear hvw
  refine q_at (pc' := 7) (st' := []) (ws' := oV q 1 ([.int x, .int y, .int z]) ++ tl) (k' := 0) (n' := 0) rfl rfl rfl rfl rfl ?_
  refine q_vret F hr_ dX1_init_7 (hp_ _ _ ⟨rfl, ?_⟩)
  rfl

set_option maxHeartbeats 4000000 in
set_option maxRecDepth 100000 in
theorem c_X4_init (l : Launch) (E : gEnv) (q : Nat) (x0 y0 z0 x y z : Int32) (tl : va_W) : Cn l E yX4_init wsX4_init (rmL 2 0 0) [.ref q, .int x, .int y, .int z] (oV q 4 ([.int x0, .int y0, .int z0]) ++ tl) 0 0 (fun v w => v = none ∧ w = oV q 4 [.int x, .int y, .int z] ++ tl) := by
  refine Cn.of (own := RX4) (cc := cX4_init) (maxL := 4) (ret := none) (lv := [(0, .ref q), (1, .int x), (2, .int y), (3, .int z)]) (by decide) rfl rfl (Nat.le_of_ble_eq_true rfl) rfl ?_
  intro p_ e_ s_ m_ args_ below_ meth_ c_ A_ P_ hp_ F hr_ hnm_
  have hd_X0_init : yX0_init.cls ≠ "java/lang/invoke/MethodHandle" ∧ yX0_init.cls ≠ "java/lang/invoke/VarHandle" ∧ (parseMethodDescriptor yX0_init.desc).map (fun d => d.parameters.length) = some 3 := by decide +kernel
  have hini_X0_init : Cond.initialized yX0_init.cls ∈ wsX4_init := by decide +kernel
  have hinm_X0_init : Cond.instanceMethod yX0_init ∈ wsX4_init := by decide +kernel
  have hlk_1 : Cond.methodLink RX4 1 yX0_init ∈ wsX4_init := by decide +kernel
  refine q_aload_n F 0 dX4_init_0 rfl ?_
  refine q_iload_n F 1 dX4_init_1 rfl ?_
  refine q_iload_n F 2 dX4_init_2 rfl ?_
  refine q_iload_n F 3 dX4_init_3 rfl ?_
  refine q_callI F (As := [.int x, .int y, .int z]) (rest := []) (c_X0_init_4 l E q x0 y0 z0 x y z tl) (List.Perm.refl _) gX4_init_X0_init rfl rfl rfl hini_X0_init hlk_1 hinm_X0_init rfl hd_X0_init ⟨by decide, by decide⟩ rfl (Nat.le_of_ble_eq_true rfl) dX4_init_4 ⟨Nat.le_of_ble_eq_true rfl, Nat.le_of_ble_eq_true rfl⟩ (fun v_ w_ hvw => ?_)
  rw [hvw.1, hvw.2]
  clear hvw
  refine q_at (pc' := 7) (st' := []) (ws' := oV q 4 ([.int x, .int y, .int z]) ++ tl) (k' := 0) (n' := 0) rfl rfl rfl rfl rfl ?_
  refine q_vret F hr_ dX4_init_7 (hp_ _ _ ⟨rfl, ?_⟩)
  rfl

set_option maxHeartbeats 4000000 in
set_option maxRecDepth 100000 in
theorem c_X3_init (l : Launch) (E : gEnv) (q : Nat) (x0 y0 z0 x y z : Int32) (tl : va_W) : Cn l E yX3_init wsX3_init (rmL 3 0 0) [.ref q, .int x, .int y, .int z] (oV q 3 ([.int x0, .int y0, .int z0]) ++ tl) 0 0 (fun v w => v = none ∧ w = oV q 3 [.int x, .int y, .int z] ++ tl) := by
  refine Cn.of (own := RX3) (cc := cX3_init) (maxL := 4) (ret := none) (lv := [(0, .ref q), (1, .int x), (2, .int y), (3, .int z)]) (by decide) rfl rfl (Nat.le_of_ble_eq_true rfl) rfl ?_
  intro p_ e_ s_ m_ args_ below_ meth_ c_ A_ P_ hp_ F hr_ hnm_
  have hd_X9_init : yX9_init.cls ≠ "java/lang/invoke/MethodHandle" ∧ yX9_init.cls ≠ "java/lang/invoke/VarHandle" ∧ (parseMethodDescriptor yX9_init.desc).map (fun d => d.parameters.length) = some 3 := by decide +kernel
  have hini_X9_init : Cond.initialized yX9_init.cls ∈ wsX3_init := by decide +kernel
  have hinm_X9_init : Cond.instanceMethod yX9_init ∈ wsX3_init := by decide +kernel
  have hlk_1 : Cond.methodLink RX3 1 yX9_init ∈ wsX3_init := by decide +kernel
  refine q_aload_n F 0 dX3_init_0 rfl ?_
  refine q_iload_n F 1 dX3_init_1 rfl ?_
  refine q_iload_n F 2 dX3_init_2 rfl ?_
  refine q_iload_n F 3 dX3_init_3 rfl ?_
  refine q_callI F (As := [.int x, .int y, .int z]) (rest := []) (c_X9_init_3 l E q x0 y0 z0 x y z tl) (List.Perm.refl _) gX3_init_X9_init rfl rfl rfl hini_X9_init hlk_1 hinm_X9_init rfl hd_X9_init ⟨by decide, by decide⟩ rfl (Nat.le_of_ble_eq_true rfl) dX3_init_4 ⟨Nat.le_of_ble_eq_true rfl, Nat.le_of_ble_eq_true rfl⟩ (fun v_ w_ hvw => ?_)
  rw [hvw.1, hvw.2]
  clear hvw
  refine q_at (pc' := 7) (st' := []) (ws' := oV q 3 ([.int x, .int y, .int z]) ++ tl) (k' := 0) (n' := 0) rfl rfl rfl rfl rfl ?_
  refine q_vret F hr_ dX3_init_7 (hp_ _ _ ⟨rfl, ?_⟩)
  rfl

set_option maxHeartbeats 4000000 in
set_option maxRecDepth 100000 in
theorem c_X6_houseTold (l : Launch) (E : gEnv) (q : Nat → Nat) (n : Nat) (f : Nat → Int32) (tl : va_W) (hP : isIn (pC E q n f) tl) (hn : n ≤ 30) (i k : Nat) (hi : 5 * i + 3 < n) (hk5 : k < 5) (hkb : kbF (f (5 * i)) = nI k) : Cn l E yX6_houseTold wsX6_houseTold (rmL 4 1 3) [.ref (q 0), .int (nI i)] (tl) 1 3 (fun v w => ∃ b, v = some (.ref b) ∧ w = oV b (kci k) [.int (f (5 * i + 1) - nI 48), .int (f (5 * i + 2) - nI 48), .int (f (5 * i + 3) - nI 48)] ++ tl) := by
  refine Cn.of (own := RX6) (cc := cX6_houseTold) (maxL := 6) (ret := (some (.object "KeyOnStreet$House"))) (lv := [(0, .ref (q 0)), (1, .int (nI i))]) (by decide) rfl rfl (Nat.le_of_ble_eq_true rfl) rfl ?_
  intro p_ e_ s_ m_ args_ below_ meth_ c_ A_ P_ hp_ F hr_ hnm_
  have hd_X6_digitAt : yX6_digitAt.cls = RX6 ∧ yX6_digitAt.cls ≠ "java/lang/invoke/MethodHandle" ∧ yX6_digitAt.cls ≠ "java/lang/invoke/VarHandle" ∧ (parseMethodDescriptor yX6_digitAt.desc).map (fun d => d.parameters.length) = some 1 := by decide +kernel
  have hd_X6_codeAt : yX6_codeAt.cls = RX6 ∧ yX6_codeAt.cls ≠ "java/lang/invoke/MethodHandle" ∧ yX6_codeAt.cls ≠ "java/lang/invoke/VarHandle" ∧ (parseMethodDescriptor yX6_codeAt.desc).map (fun d => d.parameters.length) = some 1 := by decide +kernel
  have hi0 : ∀ w ∈ u_ws RX0 TX0 3, w ∈ wsX6_houseTold := by decide +kernel
  have hcl58 : Cond.classLink RX6 58 RX0 ∈ wsX6_houseTold := by decide +kernel
  have hia0 : Cond.instantiable RX0 3 ∈ wsX6_houseTold := by decide +kernel
  have hit0 : Cond.initialized RX0 ∈ wsX6_houseTold := by decide +kernel
  have hd_X0_init : yX0_init.cls ≠ "java/lang/invoke/MethodHandle" ∧ yX0_init.cls ≠ "java/lang/invoke/VarHandle" ∧ (parseMethodDescriptor yX0_init.desc).map (fun d => d.parameters.length) = some 3 := by decide +kernel
  have hini_X0_init : Cond.initialized yX0_init.cls ∈ wsX6_houseTold := by decide +kernel
  have hinm_X0_init : Cond.instanceMethod yX0_init ∈ wsX6_houseTold := by decide +kernel
  have hlk_60 : Cond.methodLink RX6 60 yX0_init ∈ wsX6_houseTold := by decide +kernel
  have hi4 : ∀ w ∈ u_ws RX4 TX4 3, w ∈ wsX6_houseTold := by decide +kernel
  have hcl44 : Cond.classLink RX6 44 RX4 ∈ wsX6_houseTold := by decide +kernel
  have hia4 : Cond.instantiable RX4 3 ∈ wsX6_houseTold := by decide +kernel
  have hit4 : Cond.initialized RX4 ∈ wsX6_houseTold := by decide +kernel
  have hd_X4_init : yX4_init.cls ≠ "java/lang/invoke/MethodHandle" ∧ yX4_init.cls ≠ "java/lang/invoke/VarHandle" ∧ (parseMethodDescriptor yX4_init.desc).map (fun d => d.parameters.length) = some 3 := by decide +kernel
  have hini_X4_init : Cond.initialized yX4_init.cls ∈ wsX6_houseTold := by decide +kernel
  have hinm_X4_init : Cond.instanceMethod yX4_init ∈ wsX6_houseTold := by decide +kernel
  have hlk_46 : Cond.methodLink RX6 46 yX4_init ∈ wsX6_houseTold := by decide +kernel
  have hi1 : ∀ w ∈ u_ws RX1 TX1 3, w ∈ wsX6_houseTold := by decide +kernel
  have hcl49 : Cond.classLink RX6 49 RX1 ∈ wsX6_houseTold := by decide +kernel
  have hia1 : Cond.instantiable RX1 3 ∈ wsX6_houseTold := by decide +kernel
  have hit1 : Cond.initialized RX1 ∈ wsX6_houseTold := by decide +kernel
  have hd_X1_init : yX1_init.cls ≠ "java/lang/invoke/MethodHandle" ∧ yX1_init.cls ≠ "java/lang/invoke/VarHandle" ∧ (parseMethodDescriptor yX1_init.desc).map (fun d => d.parameters.length) = some 3 := by decide +kernel
  have hini_X1_init : Cond.initialized yX1_init.cls ∈ wsX6_houseTold := by decide +kernel
  have hinm_X1_init : Cond.instanceMethod yX1_init ∈ wsX6_houseTold := by decide +kernel
  have hlk_51 : Cond.methodLink RX6 51 yX1_init ∈ wsX6_houseTold := by decide +kernel
  have hi9 : ∀ w ∈ u_ws RX9 TX9 3, w ∈ wsX6_houseTold := by decide +kernel
  have hcl52 : Cond.classLink RX6 52 RX9 ∈ wsX6_houseTold := by decide +kernel
  have hia9 : Cond.instantiable RX9 3 ∈ wsX6_houseTold := by decide +kernel
  have hit9 : Cond.initialized RX9 ∈ wsX6_houseTold := by decide +kernel
  have hd_X9_init : yX9_init.cls ≠ "java/lang/invoke/MethodHandle" ∧ yX9_init.cls ≠ "java/lang/invoke/VarHandle" ∧ (parseMethodDescriptor yX9_init.desc).map (fun d => d.parameters.length) = some 3 := by decide +kernel
  have hini_X9_init : Cond.initialized yX9_init.cls ∈ wsX6_houseTold := by decide +kernel
  have hinm_X9_init : Cond.instanceMethod yX9_init ∈ wsX6_houseTold := by decide +kernel
  have hlk_54 : Cond.methodLink RX6 54 yX9_init ∈ wsX6_houseTold := by decide +kernel
  have hi3 : ∀ w ∈ u_ws RX3 TX3 3, w ∈ wsX6_houseTold := by decide +kernel
  have hcl55 : Cond.classLink RX6 55 RX3 ∈ wsX6_houseTold := by decide +kernel
  have hia3 : Cond.instantiable RX3 3 ∈ wsX6_houseTold := by decide +kernel
  have hit3 : Cond.initialized RX3 ∈ wsX6_houseTold := by decide +kernel
  have hd_X3_init : yX3_init.cls ≠ "java/lang/invoke/MethodHandle" ∧ yX3_init.cls ≠ "java/lang/invoke/VarHandle" ∧ (parseMethodDescriptor yX3_init.desc).map (fun d => d.parameters.length) = some 3 := by decide +kernel
  have hini_X3_init : Cond.initialized yX3_init.cls ∈ wsX6_houseTold := by decide +kernel
  have hinm_X3_init : Cond.instanceMethod yX3_init ∈ wsX6_houseTold := by decide +kernel
  have hlk_57 : Cond.methodLink RX6 57 yX3_init ∈ wsX6_houseTold := by decide +kernel
  refine q_iload_n F 1 dX6_houseTold_0 rfl ?_
  refine q_iconst F dX6_houseTold_1 (v := nI 5) (by decide) ?_
  refine q_imul F dX6_houseTold_2 ?_
  refine q_toi (nI (i * 5)) (pk_mul _ _) ?_
  refine q_toi (nI (5 * i)) (congrArg nI (Nat.mul_comm _ _)) ?_
  refine q_istore_n F (lv' := [(2, .int (nI (5 * i))), (0, .ref (q 0)), (1, .int (nI i))]) dX6_houseTold_3 (by decide) rfl ?_
  refine q_aload_n F 1 dX6_houseTold_4 rfl ?_
  refine q_iload_n F 0 dX6_houseTold_5 rfl ?_
  refine q_iconst F dX6_houseTold_6 (v := nI 1) (by decide) ?_
  refine q_iadd F dX6_houseTold_7 ?_
  refine q_toi (nI (5 * i + 1)) (nI_add _ _) ?_
  refine q_callV F (ci := 6) (As := [.int (nI (5 * i + 1))]) (rest := []) (hP _ (List.mem_of_getElem? (i := 0) rfl)) rfl (c_X6_digitAt l E q n f tl hP hn (5 * i + 1) (by omega)) (List.Perm.refl _) gX6_houseTold_X6_digitAt rfl rfl rfl hd_X6_digitAt ⟨by decide, by decide⟩ rfl (Nat.le_of_ble_eq_true rfl) dX6_houseTold_8 ⟨Nat.le_of_ble_eq_true rfl, Nat.le_of_ble_eq_true rfl⟩ (fun v_ w_ hvw => ?_)
  rw [hvw.1, hvw.2]
  clear hvw
  refine q_at (pc' := 11) (st' := [.int (f (5 * i + 1) - nI 48)]) (ws' := tl) (k' := 0) (n' := 0) rfl rfl rfl rfl rfl ?_
  refine q_istore_n F (lv' := [(3, .int (f (5 * i + 1) - nI 48)), (2, .int (nI (5 * i))), (0, .ref (q 0)), (1, .int (nI i))]) dX6_houseTold_11 (by decide) rfl ?_
  refine q_aload_n F 2 dX6_houseTold_12 rfl ?_
  refine q_iload_n F 1 dX6_houseTold_13 rfl ?_
  refine q_iconst F dX6_houseTold_14 (v := nI 2) (by decide) ?_
  refine q_iadd F dX6_houseTold_15 ?_
  refine q_toi (nI (5 * i + 2)) (nI_add _ _) ?_
  refine q_callV F (ci := 6) (As := [.int (nI (5 * i + 2))]) (rest := []) (hP _ (List.mem_of_getElem? (i := 0) rfl)) rfl (c_X6_digitAt l E q n f tl hP hn (5 * i + 2) (by omega)) (List.Perm.refl _) gX6_houseTold_X6_digitAt rfl rfl rfl hd_X6_digitAt ⟨by decide, by decide⟩ rfl (Nat.le_of_ble_eq_true rfl) dX6_houseTold_16 ⟨Nat.le_of_ble_eq_true rfl, Nat.le_of_ble_eq_true rfl⟩ (fun v_ w_ hvw => ?_)
  rw [hvw.1, hvw.2]
  clear hvw
  refine q_at (pc' := 19) (st' := [.int (f (5 * i + 2) - nI 48)]) (ws' := tl) (k' := 0) (n' := 0) rfl rfl rfl rfl rfl ?_
  refine q_istore F (lv' := [(4, .int (f (5 * i + 2) - nI 48)), (3, .int (f (5 * i + 1) - nI 48)), (2, .int (nI (5 * i))), (0, .ref (q 0)), (1, .int (nI i))]) dX6_houseTold_19 (by decide) rfl ?_
  refine q_aload_n F 3 dX6_houseTold_21 rfl ?_
  refine q_iload_n F 2 dX6_houseTold_22 rfl ?_
  refine q_iconst F dX6_houseTold_23 (v := nI 3) (by decide) ?_
  refine q_iadd F dX6_houseTold_24 ?_
  refine q_toi (nI (5 * i + 3)) (nI_add _ _) ?_
  refine q_callV F (ci := 6) (As := [.int (nI (5 * i + 3))]) (rest := []) (hP _ (List.mem_of_getElem? (i := 0) rfl)) rfl (c_X6_digitAt l E q n f tl hP hn (5 * i + 3) (by omega)) (List.Perm.refl _) gX6_houseTold_X6_digitAt rfl rfl rfl hd_X6_digitAt ⟨by decide, by decide⟩ rfl (Nat.le_of_ble_eq_true rfl) dX6_houseTold_25 ⟨Nat.le_of_ble_eq_true rfl, Nat.le_of_ble_eq_true rfl⟩ (fun v_ w_ hvw => ?_)
  rw [hvw.1, hvw.2]
  clear hvw
  refine q_at (pc' := 28) (st' := [.int (f (5 * i + 3) - nI 48)]) (ws' := tl) (k' := 0) (n' := 0) rfl rfl rfl rfl rfl ?_
  refine q_istore F (lv' := [(5, .int (f (5 * i + 3) - nI 48)), (4, .int (f (5 * i + 2) - nI 48)), (3, .int (f (5 * i + 1) - nI 48)), (2, .int (nI (5 * i))), (0, .ref (q 0)), (1, .int (nI i))]) dX6_houseTold_28 (by decide) rfl ?_
  refine q_aload_n F 4 dX6_houseTold_30 rfl ?_
  refine q_iload_n F 3 dX6_houseTold_31 rfl ?_
  refine q_callV F (ci := 6) (As := [.int (nI (5 * i))]) (rest := []) (hP _ (List.mem_of_getElem? (i := 0) rfl)) rfl (c_X6_codeAt l E q n f tl hP hn (5 * i) (by omega)) (List.Perm.refl _) gX6_houseTold_X6_codeAt rfl rfl rfl hd_X6_codeAt ⟨by decide, by decide⟩ rfl (Nat.le_of_ble_eq_true rfl) dX6_houseTold_32 ⟨Nat.le_of_ble_eq_true rfl, Nat.le_of_ble_eq_true rfl⟩ (fun v_ w_ hvw => ?_)
  rw [hvw.1, hvw.2]
  clear hvw
  refine q_at (pc' := 35) (st' := [.int (f (5 * i))]) (ws' := tl) (k' := 0) (n' := 0) rfl rfl rfl rfl rfl ?_
  rcases (show k = 0 ∨ k = 1 ∨ k = 2 ∨ k = 3 ∨ k = 4 by omega) with rfl | rfl | rfl | rfl | rfl
  · skip
    refine q_toi (nI 104) (kbF_i (by decide) hkb) ?_
    refine q_lookup F (off := 93) (tgt := 128) dX6_houseTold_35 (by decide) (by decide) (by decide) ?_
    refine q_new F (ci := 0) (fs := [.int (nI 0), .int (nI 0), .int (nI 0)]) rfl hi0 tyX0 tyX0_ok hcl58 hia0 hit0 (by intro j hj; rcases (show j = 0 ∨ j = 1 ∨ j = 2 by omega) with rfl | rfl | rfl <;> rfl) (Nat.le_of_ble_eq_true rfl) (Nat.le_of_ble_eq_true rfl) dX6_houseTold_128 (fun q_1 => ?_)
    refine q_at (pc' := 131) (st' := [.ref q_1]) (ws' := oV q_1 0 ([.int (nI 0), .int (nI 0), .int (nI 0)]) ++ tl) (k' := 1) (n' := 3) rfl rfl rfl rfl rfl ?_
    refine q_dup F dX6_houseTold_131 rfl ?_
    refine q_iload_n F 2 dX6_houseTold_132 rfl ?_
    refine q_iload F 1 dX6_houseTold_133 rfl ?_
    refine q_iload F 0 dX6_houseTold_135 rfl ?_
    refine q_callI F (As := [.int (f (5 * i + 1) - nI 48), .int (f (5 * i + 2) - nI 48), .int (f (5 * i + 3) - nI 48)]) (rest := [.ref q_1]) (c_X0_init_0 l E q_1 (nI 0) (nI 0) (nI 0) (f (5 * i + 1) - nI 48) (f (5 * i + 2) - nI 48) (f (5 * i + 3) - nI 48) tl) (List.Perm.refl _) gX6_houseTold_X0_init rfl rfl rfl hini_X0_init hlk_60 hinm_X0_init rfl hd_X0_init ⟨by decide, by decide⟩ rfl (Nat.le_of_ble_eq_true rfl) dX6_houseTold_137 ⟨Nat.le_of_ble_eq_true rfl, Nat.le_of_ble_eq_true rfl⟩ (fun v_ w_ hvw => ?_)
    rw [hvw.1, hvw.2]
    clear hvw
    refine q_at (pc' := 140) (st' := [.ref q_1]) (ws' := oV q_1 0 ([.int (f (5 * i + 1) - nI 48), .int (f (5 * i + 2) - nI 48), .int (f (5 * i + 3) - nI 48)]) ++ tl) (k' := 1) (n' := 3) rfl rfl rfl rfl rfl ?_
    exact q_aret F hr_ dX6_houseTold_140 (hp_ _ _ ⟨q_1, rfl, rfl⟩)
  · skip
    refine q_toi (nI 109) (kbF_i (by decide) hkb) ?_
    refine q_lookup F (off := 41) (tgt := 76) dX6_houseTold_35 (by decide) (by decide) (by decide) ?_
    refine q_new F (ci := 4) (fs := [.int (nI 0), .int (nI 0), .int (nI 0)]) rfl hi4 tyX4 tyX4_ok hcl44 hia4 hit4 (by intro j hj; rcases (show j = 0 ∨ j = 1 ∨ j = 2 by omega) with rfl | rfl | rfl <;> rfl) (Nat.le_of_ble_eq_true rfl) (Nat.le_of_ble_eq_true rfl) dX6_houseTold_76 (fun q_2 => ?_)
    refine q_at (pc' := 79) (st' := [.ref q_2]) (ws' := oV q_2 4 ([.int (nI 0), .int (nI 0), .int (nI 0)]) ++ tl) (k' := 1) (n' := 3) rfl rfl rfl rfl rfl ?_
    refine q_dup F dX6_houseTold_79 rfl ?_
    refine q_iload_n F 2 dX6_houseTold_80 rfl ?_
    refine q_iload F 1 dX6_houseTold_81 rfl ?_
    refine q_iload F 0 dX6_houseTold_83 rfl ?_
    refine q_callI F (As := [.int (f (5 * i + 1) - nI 48), .int (f (5 * i + 2) - nI 48), .int (f (5 * i + 3) - nI 48)]) (rest := [.ref q_2]) (c_X4_init l E q_2 (nI 0) (nI 0) (nI 0) (f (5 * i + 1) - nI 48) (f (5 * i + 2) - nI 48) (f (5 * i + 3) - nI 48) tl) (List.Perm.refl _) gX6_houseTold_X4_init rfl rfl rfl hini_X4_init hlk_46 hinm_X4_init rfl hd_X4_init ⟨by decide, by decide⟩ rfl (Nat.le_of_ble_eq_true rfl) dX6_houseTold_85 ⟨Nat.le_of_ble_eq_true rfl, Nat.le_of_ble_eq_true rfl⟩ (fun v_ w_ hvw => ?_)
    rw [hvw.1, hvw.2]
    clear hvw
    refine q_at (pc' := 88) (st' := [.ref q_2]) (ws' := oV q_2 4 ([.int (f (5 * i + 1) - nI 48), .int (f (5 * i + 2) - nI 48), .int (f (5 * i + 3) - nI 48)]) ++ tl) (k' := 1) (n' := 3) rfl rfl rfl rfl rfl ?_
    exact q_aret F hr_ dX6_houseTold_88 (hp_ _ _ ⟨q_2, rfl, rfl⟩)
  · skip
    refine q_toi (nI 105) (kbF_i (by decide) hkb) ?_
    refine q_lookup F (off := 54) (tgt := 89) dX6_houseTold_35 (by decide) (by decide) (by decide) ?_
    refine q_new F (ci := 1) (fs := [.int (nI 0), .int (nI 0), .int (nI 0)]) rfl hi1 tyX1 tyX1_ok hcl49 hia1 hit1 (by intro j hj; rcases (show j = 0 ∨ j = 1 ∨ j = 2 by omega) with rfl | rfl | rfl <;> rfl) (Nat.le_of_ble_eq_true rfl) (Nat.le_of_ble_eq_true rfl) dX6_houseTold_89 (fun q_3 => ?_)
    refine q_at (pc' := 92) (st' := [.ref q_3]) (ws' := oV q_3 1 ([.int (nI 0), .int (nI 0), .int (nI 0)]) ++ tl) (k' := 1) (n' := 3) rfl rfl rfl rfl rfl ?_
    refine q_dup F dX6_houseTold_92 rfl ?_
    refine q_iload_n F 2 dX6_houseTold_93 rfl ?_
    refine q_iload F 1 dX6_houseTold_94 rfl ?_
    refine q_iload F 0 dX6_houseTold_96 rfl ?_
    refine q_callI F (As := [.int (f (5 * i + 1) - nI 48), .int (f (5 * i + 2) - nI 48), .int (f (5 * i + 3) - nI 48)]) (rest := [.ref q_3]) (c_X1_init l E q_3 (nI 0) (nI 0) (nI 0) (f (5 * i + 1) - nI 48) (f (5 * i + 2) - nI 48) (f (5 * i + 3) - nI 48) tl) (List.Perm.refl _) gX6_houseTold_X1_init rfl rfl rfl hini_X1_init hlk_51 hinm_X1_init rfl hd_X1_init ⟨by decide, by decide⟩ rfl (Nat.le_of_ble_eq_true rfl) dX6_houseTold_98 ⟨Nat.le_of_ble_eq_true rfl, Nat.le_of_ble_eq_true rfl⟩ (fun v_ w_ hvw => ?_)
    rw [hvw.1, hvw.2]
    clear hvw
    refine q_at (pc' := 101) (st' := [.ref q_3]) (ws' := oV q_3 1 ([.int (f (5 * i + 1) - nI 48), .int (f (5 * i + 2) - nI 48), .int (f (5 * i + 3) - nI 48)]) ++ tl) (k' := 1) (n' := 3) rfl rfl rfl rfl rfl ?_
    exact q_aret F hr_ dX6_houseTold_101 (hp_ _ _ ⟨q_3, rfl, rfl⟩)
  · skip
    refine q_toi (nI 119) (kbF_i (by decide) hkb) ?_
    refine q_lookup F (off := 67) (tgt := 102) dX6_houseTold_35 (by decide) (by decide) (by decide) ?_
    refine q_new F (ci := 9) (fs := [.int (nI 0), .int (nI 0), .int (nI 0)]) rfl hi9 tyX9 tyX9_ok hcl52 hia9 hit9 (by intro j hj; rcases (show j = 0 ∨ j = 1 ∨ j = 2 by omega) with rfl | rfl | rfl <;> rfl) (Nat.le_of_ble_eq_true rfl) (Nat.le_of_ble_eq_true rfl) dX6_houseTold_102 (fun q_4 => ?_)
    refine q_at (pc' := 105) (st' := [.ref q_4]) (ws' := oV q_4 9 ([.int (nI 0), .int (nI 0), .int (nI 0)]) ++ tl) (k' := 1) (n' := 3) rfl rfl rfl rfl rfl ?_
    refine q_dup F dX6_houseTold_105 rfl ?_
    refine q_iload_n F 2 dX6_houseTold_106 rfl ?_
    refine q_iload F 1 dX6_houseTold_107 rfl ?_
    refine q_iload F 0 dX6_houseTold_109 rfl ?_
    refine q_callI F (As := [.int (f (5 * i + 1) - nI 48), .int (f (5 * i + 2) - nI 48), .int (f (5 * i + 3) - nI 48)]) (rest := [.ref q_4]) (c_X9_init_9 l E q_4 (nI 0) (nI 0) (nI 0) (f (5 * i + 1) - nI 48) (f (5 * i + 2) - nI 48) (f (5 * i + 3) - nI 48) tl) (List.Perm.refl _) gX6_houseTold_X9_init rfl rfl rfl hini_X9_init hlk_54 hinm_X9_init rfl hd_X9_init ⟨by decide, by decide⟩ rfl (Nat.le_of_ble_eq_true rfl) dX6_houseTold_111 ⟨Nat.le_of_ble_eq_true rfl, Nat.le_of_ble_eq_true rfl⟩ (fun v_ w_ hvw => ?_)
    rw [hvw.1, hvw.2]
    clear hvw
    refine q_at (pc' := 114) (st' := [.ref q_4]) (ws' := oV q_4 9 ([.int (f (5 * i + 1) - nI 48), .int (f (5 * i + 2) - nI 48), .int (f (5 * i + 3) - nI 48)]) ++ tl) (k' := 1) (n' := 3) rfl rfl rfl rfl rfl ?_
    exact q_aret F hr_ dX6_houseTold_114 (hp_ _ _ ⟨q_4, rfl, rfl⟩)
  · skip
    refine q_toi (nI 108) (kbF_i (by decide) hkb) ?_
    refine q_lookup F (off := 80) (tgt := 115) dX6_houseTold_35 (by decide) (by decide) (by decide) ?_
    refine q_new F (ci := 3) (fs := [.int (nI 0), .int (nI 0), .int (nI 0)]) rfl hi3 tyX3 tyX3_ok hcl55 hia3 hit3 (by intro j hj; rcases (show j = 0 ∨ j = 1 ∨ j = 2 by omega) with rfl | rfl | rfl <;> rfl) (Nat.le_of_ble_eq_true rfl) (Nat.le_of_ble_eq_true rfl) dX6_houseTold_115 (fun q_5 => ?_)
    refine q_at (pc' := 118) (st' := [.ref q_5]) (ws' := oV q_5 3 ([.int (nI 0), .int (nI 0), .int (nI 0)]) ++ tl) (k' := 1) (n' := 3) rfl rfl rfl rfl rfl ?_
    refine q_dup F dX6_houseTold_118 rfl ?_
    refine q_iload_n F 2 dX6_houseTold_119 rfl ?_
    refine q_iload F 1 dX6_houseTold_120 rfl ?_
    refine q_iload F 0 dX6_houseTold_122 rfl ?_
    refine q_callI F (As := [.int (f (5 * i + 1) - nI 48), .int (f (5 * i + 2) - nI 48), .int (f (5 * i + 3) - nI 48)]) (rest := [.ref q_5]) (c_X3_init l E q_5 (nI 0) (nI 0) (nI 0) (f (5 * i + 1) - nI 48) (f (5 * i + 2) - nI 48) (f (5 * i + 3) - nI 48) tl) (List.Perm.refl _) gX6_houseTold_X3_init rfl rfl rfl hini_X3_init hlk_57 hinm_X3_init rfl hd_X3_init ⟨by decide, by decide⟩ rfl (Nat.le_of_ble_eq_true rfl) dX6_houseTold_124 ⟨Nat.le_of_ble_eq_true rfl, Nat.le_of_ble_eq_true rfl⟩ (fun v_ w_ hvw => ?_)
    rw [hvw.1, hvw.2]
    clear hvw
    refine q_at (pc' := 127) (st' := [.ref q_5]) (ws' := oV q_5 3 ([.int (f (5 * i + 1) - nI 48), .int (f (5 * i + 2) - nI 48), .int (f (5 * i + 3) - nI 48)]) ++ tl) (k' := 1) (n' := 3) rfl rfl rfl rfl rfl ?_
    exact q_aret F hr_ dX6_houseTold_127 (hp_ _ _ ⟨q_5, rfl, rfl⟩)
