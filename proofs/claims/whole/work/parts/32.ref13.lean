/-! guess and nights, as the reference answers -/
theorem goR_okP {T : gTown} {lw : Nat} {s : Nat → Int32} (hO : okT T) : ∀ (m : Nat) (x : gGo), (∀ j, x.1 j = true → j < tN T) → okP x.2.1 → okP (goR T lw s m x).2.1
  | 0, _, _, hp => hp
  | m + 1, x, hb, hp => by
    rw [goR]
    by_cases h : wb x.1 6 = 0
    · rw [if_pos h]; exact hp
    · rw [if_neg h]
      obtain ⟨j, hj, e, -⟩ := nxS_in (lw := lw) (s := s) (p := x.2.1) hO.1 hb h
      rw [e, nI_clamp (by have := hO.1; omega)]
      exact goR_okP hO m _ (fun i hi => hb i (by have := hi; simp only [stpR, clr, Bool.and_eq_true] at this; exact this.1)) (hO.2 j hj).2.1
theorem drN_lt (s : Int32) {k : Nat} (hk : 0 < k) : drN s k < k := Nat.mod_lt _ hk
def ntV (z : gNs) (y : Int32) : Int32 := if y = 0 then z.2.2.2 else if y = nI 1 then z.2.2.1 else z.2.1
def ntB (x sd y : Int32) : Prop := inI x (nI 1) (nI 60) = false ∨ sd < 0 ∨ inI y (nI 0) (nI 2) = false
set_option maxHeartbeats 4000000 in
set_option maxRecDepth 100000 in
theorem c_X11_guess (l : Launch) (E : gEnv) (a : Nat → Nat) (f : Nat → Int32) (hh : Int64) (A : Nat → Nat → Int32) (tl : va_W) (T : gTown) (hm : f 2 = nI (tN T)) (hn : tN T ≤ 6) (hR : rowsOf (A 7) T) (hO : okT T) (sk : Nat) (h20 : f 20 = nI sk) (hsk : sk ≤ 6) (sh : Nat → Nat) (hsh : ∀ k, k < sk → A 21 (3 * k) = nI (sh k) ∧ sh k < 6) (x : Int32) : Cn l E yX11_guess wsX11_guess (rmL 5 0 0) [.ref (a 32), .int x] (mC E a f hh A ++ tl) 0 0 (fun v w => (inI x (nI 0) (nI 1) = false ∧ v = some (.int (-102)) ∧ w = mC E a f hh A ++ tl) ∨ (inI x (nI 0) (nI 1) = true ∧ tN T = 0 ∧ v = some (.int (-103)) ∧ w = mC E a f hh A ++ tl) ∨ (inI x (nI 0) (nI 1) = true ∧ ¬ tN T = 0 ∧ scP E a f hh A tl (if x = 0 then guC T (A 7) (A 21) sh sk 30 else guL T (A 7) (A 21) sh sk 30) v w)) := by
  refine Cn.of (own := RX11) (cc := cX11_guess) (maxL := 2) (ret := (some .int)) (lv := [(0, .ref (a 32)), (1, .int x)]) (by decide) rfl rfl (Nat.le_of_ble_eq_true rfl) rfl ?_
  intro p_ e_ s_ m_ args_ below_ meth_ c_ A_ P_ hp_ F hr_ hnm_
  have hd_X11_in : yX11_in.cls ≠ "java/lang/invoke/MethodHandle" ∧ yX11_in.cls ≠ "java/lang/invoke/VarHandle" ∧ (parseMethodDescriptor yX11_in.desc).map (fun d => d.parameters.length) = some 3 := by decide +kernel
  have hd_X11_lacks : yX11_lacks.cls = RX11 ∧ yX11_lacks.cls ≠ "java/lang/invoke/MethodHandle" ∧ yX11_lacks.cls ≠ "java/lang/invoke/VarHandle" ∧ (parseMethodDescriptor yX11_lacks.desc).map (fun d => d.parameters.length) = some 0 := by decide +kernel
  have hd_X11_guessOf : yX11_guessOf.cls = RX11 ∧ yX11_guessOf.cls ≠ "java/lang/invoke/MethodHandle" ∧ yX11_guessOf.cls ≠ "java/lang/invoke/VarHandle" ∧ (parseMethodDescriptor yX11_guessOf.desc).map (fun d => d.parameters.length) = some 1 := by decide +kernel
  refine q_iload_n F 1 dX11_guess_0 rfl ?_
  refine q_i2l F dX11_guess_1 ?_
  refine q_lconst F dX11_guess_2 (v := 0) (by decide) ?_
  refine q_lconst F dX11_guess_3 (v := 1) (by decide) ?_
  refine q_callS F (As := [.long x.toInt64, .long (0 : Int64), .long (1 : Int64)]) (rest := []) (c_X11_in l E (mC E a f hh A ++ tl) x.toInt64 (0 : Int64) (1 : Int64)) (List.Perm.refl _) gX11_guess_X11_in rfl rfl rfl hd_X11_in ⟨by decide, by decide⟩ rfl (Nat.le_of_ble_eq_true rfl) dX11_guess_4 ⟨Nat.le_of_ble_eq_true rfl, Nat.le_of_ble_eq_true rfl⟩ (fun v_ w_ hvw => ?_)
  rw [hvw.1, hvw.2]
  clear hvw
  refine q_at (pc' := 7) (st' := [.int (bI (inL x.toInt64 (0 : Int64) (1 : Int64)))]) (ws' := mC E a f hh A ++ tl) (k' := 0) (n' := 0) rfl rfl rfl rfl rfl ?_
  refine q_toi (bI (inI x (nI 0) (nI 1))) (congrArg bI (inL_I (by decide) (by decide))) ?_
  refine q_if_ne F (tgt := 13) dX11_guess_7 (by decide) (fun h_7 => ?_) (fun h_7 => ?_)
  · skip
    have hb_7 := bI_1 h_7
    refine q_aload_n F 0 dX11_guess_13 rfl ?_
    refine q_callV F (ci := 11) (As := []) (rest := []) (List.mem_append_left _ (List.mem_of_getElem? (i := 0) rfl)) rfl (c_X11_lacks l E a f hh A tl T hm hn ) (List.Perm.refl _) gX11_guess_X11_lacks rfl rfl rfl hd_X11_lacks ⟨by decide, by decide⟩ rfl (Nat.le_of_ble_eq_true rfl) dX11_guess_14 ⟨Nat.le_of_ble_eq_true rfl, Nat.le_of_ble_eq_true rfl⟩ (fun v_ w_ hvw => ?_)
    rw [hvw.1, hvw.2]
    clear hvw
    refine q_at (pc' := 17) (st' := [.int (bI (decide (tN T = 0)))]) (ws' := mC E a f hh A ++ tl) (k' := 0) (n' := 0) rfl rfl rfl rfl rfl ?_
    refine q_if_eq F (tgt := 25) dX11_guess_17 (by decide) (fun h_17 => ?_) (fun h_17 => ?_)
    · skip
      have hb_17 := bI_0 h_17
      refine q_aload_n F 0 dX11_guess_25 rfl ?_
      refine q_iload_n F 1 dX11_guess_26 rfl ?_
      refine q_callV F (ci := 11) (As := [.int x]) (rest := []) (List.mem_append_left _ (List.mem_of_getElem? (i := 0) rfl)) rfl (c_X11_guessOf l E a f hh A tl T hm hn hR hO sk h20 hsk sh hsh x) (List.Perm.refl _) gX11_guess_X11_guessOf rfl rfl rfl hd_X11_guessOf ⟨by decide, by decide⟩ rfl (Nat.le_of_ble_eq_true rfl) dX11_guess_27 ⟨Nat.le_of_ble_eq_true rfl, Nat.le_of_ble_eq_true rfl⟩ (fun v_ w_ hvw => ?_)
      obtain ⟨hv_, f1, A1, hw_, hkf, hka⟩ := hvw
      rw [hv_, hw_]
      refine q_at (pc' := 30) (st' := [.int (if x = 0 then guC T (A 7) (A 21) sh sk 30 else guL T (A 7) (A 21) sh sk 30)]) (ws' := mC E a f1 hh A1 ++ tl) (k' := 0) (n' := 0) rfl rfl rfl rfl rfl ?_
      exact q_iret F hr_ dX11_guess_30 (hp_ _ _ (Or.inr (Or.inr ⟨hb_7, by simpa using hb_17, rfl, f1, A1, rfl, hkf, hka⟩)))
    · skip
      have hb_17 := bI_1 h_17
      refine q_bipush F dX11_guess_20 (v := (-103)) (by decide) ?_
      refine q_goto F (tgt := 30) dX11_guess_22 (by decide) ?_
      exact q_iret F hr_ dX11_guess_30 (hp_ _ _ (Or.inr (Or.inl ⟨hb_7, by simpa using hb_17, rfl, rfl⟩)))
  · skip
    have hb_7 := bI_0 h_7
    refine q_bipush F dX11_guess_10 (v := (-102)) (by decide) ?_
    exact q_iret F hr_ dX11_guess_12 (hp_ _ _ (Or.inl ⟨hb_7, rfl, rfl⟩))

set_option maxHeartbeats 4000000 in
set_option maxRecDepth 100000 in
theorem c_X11_nights (l : Launch) (E : gEnv) (a : Nat → Nat) (f : Nat → Int32) (hh : Int64) (A : Nat → Nat → Int32) (tl : va_W) (T : gTown) (hm : f 2 = nI (tN T)) (hn : tN T ≤ 6) (hR : rowsOf (A 7) T) (hO : okT T) (hp3 : okP (f 3)) (x sd y : Int32) : Cn l E yX11_nights wsX11_nights (rmL 4 0 0) [.ref (a 32), .int x, .int sd, .int y] (mC E a f hh A ++ tl) 0 0 (fun v w => (ntB x sd y ∧ v = some (.int (-102)) ∧ w = mC E a f hh A ++ tl) ∨ (∃ N : Nat, 1 ≤ N ∧ N ≤ 60 ∧ x = nI N ∧ ¬ sd < 0 ∧ inI y (nI 0) (nI 2) = true ∧ tN T = 0 ∧ v = some (.int (-103)) ∧ w = mC E a f hh A ++ tl) ∨ ∃ N : Nat, 1 ≤ N ∧ N ≤ 60 ∧ x = nI N ∧ ¬ sd < 0 ∧ inI y (nI 0) (nI 2) = true ∧ ¬ tN T = 0 ∧ scP E a f hh A tl (ntV (ntF T (A 7, sd, f 3, nI 0) N) y) v w) := by
  refine Cn.of (own := RX11) (cc := cX11_nights) (maxL := 7) (ret := (some .int)) (lv := [(0, .ref (a 32)), (1, .int x), (2, .int sd), (3, .int y)]) (by decide) rfl rfl (Nat.le_of_ble_eq_true rfl) rfl ?_
  intro p_ e_ s_ m_ args_ below_ meth_ c_ A_ P_ hp_ F hr_ hnm_
  have hk205 : Cond.constantLong RX11 205 (60) ∈ wsX11_nights := by decide +kernel
  have hd_X11_in : yX11_in.cls ≠ "java/lang/invoke/MethodHandle" ∧ yX11_in.cls ≠ "java/lang/invoke/VarHandle" ∧ (parseMethodDescriptor yX11_in.desc).map (fun d => d.parameters.length) = some 3 := by decide +kernel
  have hk130 : Cond.constantLong RX11 130 (2) ∈ wsX11_nights := by decide +kernel
  have hd_X11_lacks : yX11_lacks.cls = RX11 ∧ yX11_lacks.cls ≠ "java/lang/invoke/MethodHandle" ∧ yX11_lacks.cls ≠ "java/lang/invoke/VarHandle" ∧ (parseMethodDescriptor yX11_lacks.desc).map (fun d => d.parameters.length) = some 0 := by decide +kernel
  have hf13_11 : Cond.fieldLink RX11 13 "KeyOnStreetModel" (TX11 7).2.1 (TX11 7).2.2.1 ∈ wsX11_nights := by decide +kernel
  have hi11 : ∀ w ∈ u_ws RX11 TX11 32, w ∈ wsX11_nights := by decide +kernel
  have hf31_11 : Cond.fieldLink RX11 31 "KeyOnStreetModel" (TX11 23).2.1 (TX11 23).2.2.1 ∈ wsX11_nights := by decide +kernel
  have hd_X11_copy : yX11_copy.cls ≠ "java/lang/invoke/MethodHandle" ∧ yX11_copy.cls ≠ "java/lang/invoke/VarHandle" ∧ (parseMethodDescriptor yX11_copy.desc).map (fun d => d.parameters.length) = some 2 := by decide +kernel
  have hf197_11 : Cond.fieldLink RX11 197 "KeyOnStreetModel" (TX11 22).2.1 (TX11 22).2.2.1 ∈ wsX11_nights := by decide +kernel
  have hf70_11 : Cond.fieldLink RX11 70 "KeyOnStreetModel" (TX11 3).2.1 (TX11 3).2.2.1 ∈ wsX11_nights := by decide +kernel
  have hf102_11 : Cond.fieldLink RX11 102 "KeyOnStreetModel" (TX11 8).2.1 (TX11 8).2.2.1 ∈ wsX11_nights := by decide +kernel
  have hf105_11 : Cond.fieldLink RX11 105 "KeyOnStreetModel" (TX11 9).2.1 (TX11 9).2.2.1 ∈ wsX11_nights := by decide +kernel
  have hf108_11 : Cond.fieldLink RX11 108 "KeyOnStreetModel" (TX11 10).2.1 (TX11 10).2.2.1 ∈ wsX11_nights := by decide +kernel
  have hf67_11 : Cond.fieldLink RX11 67 "KeyOnStreetModel" (TX11 2).2.1 (TX11 2).2.2.1 ∈ wsX11_nights := by decide +kernel
  have hd_X11_draw : yX11_draw.cls = RX11 ∧ yX11_draw.cls ≠ "java/lang/invoke/MethodHandle" ∧ yX11_draw.cls ≠ "java/lang/invoke/VarHandle" ∧ (parseMethodDescriptor yX11_draw.desc).map (fun d => d.parameters.length) = some 1 := by decide +kernel
  have hd_X11_shutBits : yX11_shutBits.cls = RX11 ∧ yX11_shutBits.cls ≠ "java/lang/invoke/MethodHandle" ∧ yX11_shutBits.cls ≠ "java/lang/invoke/VarHandle" ∧ (parseMethodDescriptor yX11_shutBits.desc).map (fun d => d.parameters.length) = some 0 := by decide +kernel
  have hd_X11_goesBy : yX11_goesBy.cls = RX11 ∧ yX11_goesBy.cls ≠ "java/lang/invoke/MethodHandle" ∧ yX11_goesBy.cls ≠ "java/lang/invoke/VarHandle" ∧ (parseMethodDescriptor yX11_goesBy.desc).map (fun d => d.parameters.length) = some 2 := by decide +kernel
  refine q_iload_n F 1 dX11_nights_0 rfl ?_
  refine q_i2l F dX11_nights_1 ?_
  refine q_lconst F dX11_nights_2 (v := 1) (by decide) ?_
  refine q_ldc2 F hk205 dX11_nights_3 ?_
  refine q_callS F (As := [.long x.toInt64, .long (1 : Int64), .long (60 : Int64)]) (rest := []) (c_X11_in l E (mC E a f hh A ++ tl) x.toInt64 (1 : Int64) (60 : Int64)) (List.Perm.refl _) gX11_nights_X11_in rfl rfl rfl hd_X11_in ⟨by decide, by decide⟩ rfl (Nat.le_of_ble_eq_true rfl) dX11_nights_6 ⟨Nat.le_of_ble_eq_true rfl, Nat.le_of_ble_eq_true rfl⟩ (fun v_ w_ hvw => ?_)
  rw [hvw.1, hvw.2]
  clear hvw
  refine q_at (pc' := 9) (st' := [.int (bI (inL x.toInt64 (1 : Int64) (60 : Int64)))]) (ws' := mC E a f hh A ++ tl) (k' := 0) (n' := 0) rfl rfl rfl rfl rfl ?_
  refine q_toi (bI (inI x (nI 1) (nI 60))) (congrArg bI (inL_I (by decide) (by decide))) ?_
  refine q_if_eq F (tgt := 28) dX11_nights_9 (by decide) (fun h_9 => ?_) (fun h_9 => ?_)
  · skip
    have hb_9 := bI_0 h_9
    refine q_bipush F dX11_nights_28 (v := (-102)) (by decide) ?_
    exact q_iret F hr_ dX11_nights_30 (hp_ _ _ (Or.inl ⟨Or.inl hb_9, rfl, rfl⟩))
  · skip
    have hb_9 := bI_1 h_9
    obtain ⟨N, h1N, hN, rfl⟩ := inI_nat (by decide) (by decide) hb_9
    refine q_iload_n F 2 dX11_nights_12 rfl ?_
    refine q_if_lt F (tgt := 28) dX11_nights_13 (by decide) (fun h_13 => ?_) (fun h_13 => ?_)
    · skip
      have hz_13 := Int32.not_le.mpr h_13
      refine q_bipush F dX11_nights_28 (v := (-102)) (by decide) ?_
      exact q_iret F hr_ dX11_nights_30 (hp_ _ _ (Or.inl ⟨Or.inr (Or.inl h_13), rfl, rfl⟩))
    · skip
      have hz_13 := Int32.not_lt.mp h_13
      refine q_iload_n F 3 dX11_nights_16 rfl ?_
      refine q_i2l F dX11_nights_17 ?_
      refine q_lconst F dX11_nights_18 (v := 0) (by decide) ?_
      refine q_ldc2 F hk130 dX11_nights_19 ?_
      refine q_callS F (As := [.long y.toInt64, .long (0 : Int64), .long (2 : Int64)]) (rest := []) (c_X11_in l E (mC E a f hh A ++ tl) y.toInt64 (0 : Int64) (2 : Int64)) (List.Perm.refl _) gX11_nights_X11_in rfl rfl rfl hd_X11_in ⟨by decide, by decide⟩ rfl (Nat.le_of_ble_eq_true rfl) dX11_nights_22 ⟨Nat.le_of_ble_eq_true rfl, Nat.le_of_ble_eq_true rfl⟩ (fun v_ w_ hvw => ?_)
      rw [hvw.1, hvw.2]
      clear hvw
      refine q_at (pc' := 25) (st' := [.int (bI (inL y.toInt64 (0 : Int64) (2 : Int64)))]) (ws' := mC E a f hh A ++ tl) (k' := 0) (n' := 0) rfl rfl rfl rfl rfl ?_
      refine q_toi (bI (inI y (nI 0) (nI 2))) (congrArg bI (inL_I (by decide) (by decide))) ?_
      refine q_if_ne F (tgt := 31) dX11_nights_25 (by decide) (fun h_25 => ?_) (fun h_25 => ?_)
      · skip
        have hb_25 := bI_1 h_25
        refine q_aload_n F 0 dX11_nights_31 rfl ?_
        refine q_callV F (ci := 11) (As := []) (rest := []) (List.mem_append_left _ (List.mem_of_getElem? (i := 0) rfl)) rfl (c_X11_lacks l E a f hh A tl T hm hn ) (List.Perm.refl _) gX11_nights_X11_lacks rfl rfl rfl hd_X11_lacks ⟨by decide, by decide⟩ rfl (Nat.le_of_ble_eq_true rfl) dX11_nights_32 ⟨Nat.le_of_ble_eq_true rfl, Nat.le_of_ble_eq_true rfl⟩ (fun v_ w_ hvw => ?_)
        rw [hvw.1, hvw.2]
        clear hvw
        refine q_at (pc' := 35) (st' := [.int (bI (decide (tN T = 0)))]) (ws' := mC E a f hh A ++ tl) (k' := 0) (n' := 0) rfl rfl rfl rfl rfl ?_
        refine q_if_eq F (tgt := 41) dX11_nights_35 (by decide) (fun h_35 => ?_) (fun h_35 => ?_)
        · skip
          have hb_35 := bI_0 h_35
          refine q_aload_n F 0 dX11_nights_41 rfl ?_
          refine q_get F (ci := 11) (j := 7) (v := .ref (a 7)) (List.mem_append_left _ (List.mem_of_getElem? (i := 0) rfl)) rfl hi11 (by decide) hf13_11 rfl rfl dX11_nights_42 ?_
          refine q_aload_n F 0 dX11_nights_45 rfl ?_
          refine q_get F (ci := 11) (j := 23) (v := .ref (a 23)) (List.mem_append_left _ (List.mem_of_getElem? (i := 0) rfl)) rfl hi11 (by decide) hf31_11 rfl rfl dX11_nights_46 ?_
          refine q_callS F (As := [.ref (a 7), .ref (a 23)]) (rest := []) (c_X11_copy_7_23 l E a f hh A tl) (List.Perm.refl _) gX11_nights_X11_copy rfl rfl rfl hd_X11_copy ⟨by decide, by decide⟩ rfl (Nat.le_of_ble_eq_true rfl) dX11_nights_49 ⟨Nat.le_of_ble_eq_true rfl, Nat.le_of_ble_eq_true rfl⟩ (fun v_ w_ hvw => ?_)
          rw [hvw.1, hvw.2]
          clear hvw
          refine q_at (pc' := 52) (st' := []) (ws' := mC E a f hh (va_up A 23 (A 7)) ++ tl) (k' := 0) (n' := 0) rfl rfl rfl rfl rfl ?_
          refine q_aload_n F 0 dX11_nights_52 rfl ?_
          refine q_iload_n F 2 dX11_nights_53 rfl ?_
          refine q_put F (j := 22) 0 rfl rfl hi11 tyX11 tyX11_ok nmX11 (by decide) hf197_11 rfl rfl rfl rfl (Nat.le_of_ble_eq_true rfl) dX11_nights_54 (ws' := mC E a (upd f 22 sd) hh (va_up A 23 (A 7)) ++ tl) rfl ?_
          refine q_aload_n F 0 dX11_nights_57 rfl ?_
          refine q_aload_n F 0 dX11_nights_58 rfl ?_
          refine q_get F (ci := 11) (j := 3) (v := .int (f 3)) (List.mem_append_left _ (List.mem_of_getElem? (i := 0) rfl)) rfl hi11 (by decide) hf70_11 rfl rfl dX11_nights_59 ?_
          refine q_put F (j := 8) 0 rfl rfl hi11 tyX11 tyX11_ok nmX11 (by decide) hf102_11 rfl rfl rfl rfl (Nat.le_of_ble_eq_true rfl) dX11_nights_62 (ws' := mC E a (upd (upd f 8 (f 3)) 22 sd) hh (va_up A 23 (A 7)) ++ tl) rfl ?_
          refine q_iconst F dX11_nights_65 (v := nI 0) (by decide) ?_
          refine q_istore F (lv' := [(4, .int (nI 0)), (0, .ref (a 32)), (1, .int (nI N)), (2, .int sd), (3, .int y)]) dX11_nights_66 (by decide) rfl ?_
          refine q_iconst F dX11_nights_68 (v := nI 0) (by decide) ?_
          refine q_istore F (lv' := [(5, .int (nI 0)), (4, .int (nI 0)), (0, .ref (a 32)), (1, .int (nI N)), (2, .int sd), (3, .int y)]) dX11_nights_69 (by decide) rfl ?_
          have lb71 : ∀ (fu : Nat) (k : Nat) (z : gNs) (m9 : Int32) (u9 : Int32) (I9 : Nat → Int32) (hk : k ≤ N) (hz : z = ntF T (A 7, sd, f 3, nI 0) k) (hRz : rowsOf z.1 T) (hpz : okP z.2.2.1), N - k < fu → gW p_ l e_ (rmL 4 0 0) s_ m_ args_ below_ meth_ c_ E A_ 7 (MQ below_ (gQ E A_ P_) args_ s_ 0 0 A_) 71 [(0, .ref (a 32)), (1, .int (nI N)), (2, .int sd), (3, .int y), (4, .int z.2.2.2), (5, .int (nI k))] [] (mC E a (upd (upd (upd (upd f 8 z.2.2.1) 9 m9) 10 u9) 22 z.2.1) hh (va_up (va_up (va_up A 7 z.1) 11 I9) 23 (A 7)) ++ tl) 0 0 := by
            intro fu_71
            induction fu_71 with
            | zero => intro k z m9 u9 I9 hk hz hRz hpz hfu; exact absurd hfu (Nat.not_lt_zero _)
            | succ fu_71 ih_71 =>
              intro k z m9 u9 I9 hk hz hRz hpz hfu_71
              refine q_iload F 5 dX11_nights_71 rfl ?_
              refine q_iload_n F 1 dX11_nights_73 rfl ?_
              refine q_icmp_ge F (tgt := 159) dX11_nights_74 (by decide) (fun h_74 => ?_) (fun h_74 => ?_)
              · skip
                have hn_74 : k ≥ N := nf_ge_t (by omega) (by omega) h_74
                refine q_aload_n F 0 dX11_nights_159 rfl ?_
                refine q_get F (ci := 11) (j := 23) (v := .ref (a 23)) (List.mem_append_left _ (List.mem_of_getElem? (i := 0) rfl)) rfl hi11 (by decide) hf31_11 rfl rfl dX11_nights_160 ?_
                refine q_aload_n F 0 dX11_nights_163 rfl ?_
                refine q_get F (ci := 11) (j := 7) (v := .ref (a 7)) (List.mem_append_left _ (List.mem_of_getElem? (i := 0) rfl)) rfl hi11 (by decide) hf13_11 rfl rfl dX11_nights_164 ?_
                refine q_callS F (As := [.ref (a 23), .ref (a 7)]) (rest := []) (c_X11_copy_23_7 l E a (upd (upd (upd (upd f 8 z.2.2.1) 9 m9) 10 u9) 22 z.2.1) hh (va_up (va_up (va_up A 7 z.1) 11 I9) 23 (A 7)) tl) (List.Perm.refl _) gX11_nights_X11_copy rfl rfl rfl hd_X11_copy ⟨by decide, by decide⟩ rfl (Nat.le_of_ble_eq_true rfl) dX11_nights_167 ⟨Nat.le_of_ble_eq_true rfl, Nat.le_of_ble_eq_true rfl⟩ (fun v_ w_ hvw => ?_)
                rw [hvw.1, hvw.2]
                clear hvw
                refine q_at (pc' := 170) (st' := []) (ws' := mC E a (upd (upd (upd (upd f 8 z.2.2.1) 9 m9) 10 u9) 22 z.2.1) hh (va_up (va_up (va_up A 7 (A 7)) 11 I9) 23 (A 7)) ++ tl) (k' := 0) (n' := 0) rfl rfl rfl rfl rfl ?_
                refine q_iload_n F 3 dX11_nights_170 rfl ?_
                refine q_if_ne F (tgt := 179) dX11_nights_171 (by decide) (fun h_171 => ?_) (fun h_171 => ?_)
                · skip
                  refine q_iload_n F 3 dX11_nights_179 rfl ?_
                  refine q_iconst F dX11_nights_180 (v := nI 1) (by decide) ?_
                  refine q_icmp_ne F (tgt := 191) dX11_nights_181 (by decide) (fun h_181 => ?_) (fun h_181 => ?_)
                  · skip
                    refine q_aload_n F 0 dX11_nights_191 rfl ?_
                    refine q_get F (ci := 11) (j := 22) (v := .int z.2.1) (List.mem_append_left _ (List.mem_of_getElem? (i := 0) rfl)) rfl hi11 (by decide) hf197_11 rfl rfl dX11_nights_192 ?_
                    obtain rfl : k = N := by omega
                    refine q_iret F hr_ dX11_nights_195 (hp_ _ _ (Or.inr (Or.inr ⟨k, h1N, hN, rfl, h_13, hb_25, by simpa using hb_35, congrArg (fun z => some (Value.int z)) ?_, _, _, rfl, ?_, ?_⟩)))
                    · rw [ntV, if_neg h_171, if_neg h_181, hz]
                    · repeat (first | exact kpF_r _ | refine kpF_u (by decide) ?_)
                    · intro k hk; simp only [va_up]; by_cases e7 : k = 7; (subst e7; rfl); have e11 : k ≠ 11 := fun z => by rw [z] at hk; exact absurd hk (by decide)
                      have e23 : k ≠ 23 := fun z => by rw [z] at hk; exact absurd hk (by decide)
                      simp [e7, e11, e23]
                  · skip
                    refine q_aload_n F 0 dX11_nights_184 rfl ?_
                    refine q_get F (ci := 11) (j := 8) (v := .int z.2.2.1) (List.mem_append_left _ (List.mem_of_getElem? (i := 0) rfl)) rfl hi11 (by decide) hf102_11 rfl rfl dX11_nights_185 ?_
                    refine q_goto F (tgt := 195) dX11_nights_188 (by decide) ?_
                    obtain rfl : k = N := by omega
                    refine q_iret F hr_ dX11_nights_195 (hp_ _ _ (Or.inr (Or.inr ⟨k, h1N, hN, rfl, h_13, hb_25, by simpa using hb_35, congrArg (fun z => some (Value.int z)) ?_, _, _, rfl, ?_, ?_⟩)))
                    · rw [ntV, if_neg h_171, if_pos h_181, hz]
                    · repeat (first | exact kpF_r _ | refine kpF_u (by decide) ?_)
                    · intro k hk; simp only [va_up]; by_cases e7 : k = 7; (subst e7; rfl); have e11 : k ≠ 11 := fun z => by rw [z] at hk; exact absurd hk (by decide)
                      have e23 : k ≠ 23 := fun z => by rw [z] at hk; exact absurd hk (by decide)
                      simp [e7, e11, e23]
                · skip
                  refine q_iload F 4 dX11_nights_174 rfl ?_
                  refine q_goto F (tgt := 195) dX11_nights_176 (by decide) ?_
                  obtain rfl : k = N := by omega
                  refine q_iret F hr_ dX11_nights_195 (hp_ _ _ (Or.inr (Or.inr ⟨k, h1N, hN, rfl, h_13, hb_25, by simpa using hb_35, congrArg (fun z => some (Value.int z)) ?_, _, _, rfl, ?_, ?_⟩)))
                  · rw [ntV, if_pos h_171, hz]
                  · repeat (first | exact kpF_r _ | refine kpF_u (by decide) ?_)
                  · intro k hk; simp only [va_up]; by_cases e7 : k = 7; (subst e7; rfl); have e11 : k ≠ 11 := fun z => by rw [z] at hk; exact absurd hk (by decide)
                    have e23 : k ≠ 23 := fun z => by rw [z] at hk; exact absurd hk (by decide)
                    simp [e7, e11, e23]
              · skip
                have hn_74 : k < N := nf_ge_f (by omega) (by omega) h_74
                refine q_aload_n F 0 dX11_nights_77 rfl ?_
                refine q_iconst F dX11_nights_78 (v := nI 0) (by decide) ?_
                refine q_put F (j := 9) 0 rfl rfl hi11 tyX11 tyX11_ok nmX11 (by decide) hf105_11 rfl rfl rfl rfl (Nat.le_of_ble_eq_true rfl) dX11_nights_79 (ws' := mC E a (upd (upd (upd (upd f 8 z.2.2.1) 9 (nI 0)) 10 u9) 22 z.2.1) hh (va_up (va_up (va_up A 7 z.1) 11 I9) 23 (A 7)) ++ tl) rfl ?_
                refine q_aload_n F 0 dX11_nights_82 rfl ?_
                refine q_iconst F dX11_nights_83 (v := nI 0) (by decide) ?_
                refine q_put F (j := 10) 0 rfl rfl hi11 tyX11 tyX11_ok nmX11 (by decide) hf108_11 rfl rfl rfl rfl (Nat.le_of_ble_eq_true rfl) dX11_nights_84 (ws' := mC E a (upd (upd (upd (upd f 8 z.2.2.1) 9 (nI 0)) 10 (nI 0)) 22 z.2.1) hh (va_up (va_up (va_up A 7 z.1) 11 I9) 23 (A 7)) ++ tl) rfl ?_
                refine q_iconst F dX11_nights_87 (v := nI 0) (by decide) ?_
                refine q_istore F (lv' := [(6, .int (nI 0)), (0, .ref (a 32)), (1, .int (nI N)), (2, .int sd), (3, .int y), (4, .int z.2.2.2), (5, .int (nI k))]) dX11_nights_88 (by decide) rfl ?_
                have lb90 : ∀ (fu : Nat) (i : Nat) (hi : i ≤ tN T), tN T - i < fu → gW p_ l e_ (rmL 4 0 0) s_ m_ args_ below_ meth_ c_ E A_ 7 (MQ below_ (gQ E A_ P_) args_ s_ 0 0 A_) 90 [(0, .ref (a 32)), (1, .int (nI N)), (2, .int sd), (3, .int y), (4, .int z.2.2.2), (5, .int (nI k)), (6, .int (nI i))] [] (mC E a (upd (upd (upd (upd f 8 z.2.2.1) 9 (nI 0)) 10 (nI 0)) 22 ((ntR z.1 z.2.1 i).2)) hh (va_up (va_up (va_up A 7 ((ntR z.1 z.2.1 i).1)) 11 I9) 23 (A 7)) ++ tl) 0 0 := by
                  intro fu_90
                  induction fu_90 with
                  | zero => intro i hi hfu; exact absurd hfu (Nat.not_lt_zero _)
                  | succ fu_90 ih_90 =>
                    intro i hi hfu_90
                    refine q_iload F 6 dX11_nights_90 rfl ?_
                    refine q_aload_n F 0 dX11_nights_92 rfl ?_
                    refine q_get F (ci := 11) (j := 2) (v := .int (f 2)) (List.mem_append_left _ (List.mem_of_getElem? (i := 0) rfl)) rfl hi11 (by decide) hf67_11 rfl rfl dX11_nights_93 ?_
                    refine q_toi (nI (tN T)) (hm) ?_
                    refine q_icmp_ge F (tgt := 131) dX11_nights_96 (by decide) (fun h_96 => ?_) (fun h_96 => ?_)
                    · skip
                      have hn_96 : i ≥ (tN T) := nf_ge_t (by omega) (by omega) h_96
                      obtain rfl : i = tN T := by omega
                      refine q_aload_n F 0 dX11_nights_131 rfl ?_
                      refine q_iconst F dX11_nights_132 (v := nI 3) (by decide) ?_
                      refine q_callV F (ci := 11) (As := [.int (nI 3)]) (rest := []) (List.mem_append_left _ (List.mem_of_getElem? (i := 0) rfl)) rfl (c_X11_draw l E a (upd (upd (upd (upd f 8 z.2.2.1) 9 (nI 0)) 10 (nI 0)) 22 ((ntR z.1 z.2.1 (tN T)).2)) hh (va_up (va_up (va_up A 7 ((ntR z.1 z.2.1 (tN T)).1)) 11 I9) 23 (A 7)) tl 3 (by decide) (by decide)) (List.Perm.refl _) gX11_nights_X11_draw rfl rfl rfl hd_X11_draw ⟨by decide, by decide⟩ rfl (Nat.le_of_ble_eq_true rfl) dX11_nights_133 ⟨Nat.le_of_ble_eq_true rfl, Nat.le_of_ble_eq_true rfl⟩ (fun v_ w_ hvw => ?_)
                      rw [hvw.1, hvw.2]
                      clear hvw
                      refine q_at (pc' := 136) (st' := [.int (nI (drN ((ntR z.1 z.2.1 (tN T)).2) 3))]) (ws' := mC E a (upd (upd (upd (upd f 8 z.2.2.1) 9 (nI 0)) 10 (nI 0)) 22 (sdN ((ntR z.1 z.2.1 (tN T)).2))) hh (va_up (va_up (va_up A 7 ((ntR z.1 z.2.1 (tN T)).1)) 11 I9) 23 (A 7)) ++ tl) (k' := 0) (n' := 0) rfl rfl rfl rfl rfl ?_
                      refine q_istore F (lv' := [(6, .int (nI (drN ((ntR z.1 z.2.1 (tN T)).2) 3))), (0, .ref (a 32)), (1, .int (nI N)), (2, .int sd), (3, .int y), (4, .int z.2.2.2), (5, .int (nI k))]) dX11_nights_136 (by decide) rfl ?_
                      refine q_iload F 5 dX11_nights_138 rfl ?_
                      refine q_aload_n F 1 dX11_nights_140 rfl ?_
                      refine q_aload_n F 1 dX11_nights_141 rfl ?_
                      refine q_callV F (ci := 11) (As := []) (rest := [.ref (a 32), .int z.2.2.2]) (List.mem_append_left _ (List.mem_of_getElem? (i := 0) rfl)) rfl (c_X11_shutBits l E a (upd (upd (upd (upd f 8 z.2.2.1) 9 (nI 0)) 10 (nI 0)) 22 (sdN ((ntR z.1 z.2.1 (tN T)).2))) hh (va_up (va_up (va_up A 7 ((ntR z.1 z.2.1 (tN T)).1)) 11 I9) 23 (A 7)) tl T hm hn ) (List.Perm.refl _) gX11_nights_X11_shutBits rfl rfl rfl hd_X11_shutBits ⟨by decide, by decide⟩ rfl (Nat.le_of_ble_eq_true rfl) dX11_nights_142 ⟨Nat.le_of_ble_eq_true rfl, Nat.le_of_ble_eq_true rfl⟩ (fun v_ w_ hvw => ?_)
                      rw [hvw.1, hvw.2]
                      clear hvw
                      refine q_at (pc' := 145) (st' := [.int (wb (shB T ((ntR z.1 z.2.1 (tN T)).1)) 6), .ref (a 32), .int z.2.2.2]) (ws' := mC E a (upd (upd (upd (upd f 8 z.2.2.1) 9 (nI 0)) 10 (nI 0)) 22 (sdN ((ntR z.1 z.2.1 (tN T)).2))) hh (va_up (va_up (va_up A 7 ((ntR z.1 z.2.1 (tN T)).1)) 11 I9) 23 (A 7)) ++ tl) (k' := 0) (n' := 0) rfl rfl rfl rfl rfl ?_
                      refine q_iload F 0 dX11_nights_145 rfl ?_
                      refine q_callV F (ci := 11) (As := [.int (wb (shB T ((ntR z.1 z.2.1 (tN T)).1)) 6), .int (nI (drN ((ntR z.1 z.2.1 (tN T)).2) 3))]) (rest := [.int z.2.2.2]) (List.mem_append_left _ (List.mem_of_getElem? (i := 0) rfl)) rfl (c_X11_goesBy l E a (upd (upd (upd (upd f 8 z.2.2.1) 9 (nI 0)) 10 (nI 0)) 22 (sdN ((ntR z.1 z.2.1 (tN T)).2))) hh (va_up (va_up (va_up A 7 ((ntR z.1 z.2.1 (tN T)).1)) 11 I9) 23 (A 7)) tl T hm hn (ntR_rows hRz _ _) hO (shB T ((ntR z.1 z.2.1 (tN T)).1)) shB_lt (drN ((ntR z.1 z.2.1 (tN T)).2) 3) (drN_lt _ (by decide)) hpz) (List.Perm.refl _) gX11_nights_X11_goesBy rfl rfl rfl hd_X11_goesBy ⟨by decide, by decide⟩ rfl (Nat.le_of_ble_eq_true rfl) dX11_nights_147 ⟨Nat.le_of_ble_eq_true rfl, Nat.le_of_ble_eq_true rfl⟩ (fun v_ w_ hvw => ?_)
                      rw [hvw.1, hvw.2]
                      clear hvw
                      refine q_at (pc' := 150) (st' := [.int ((goR T (drN ((ntR z.1 z.2.1 (tN T)).2) 3) (sF ((ntR z.1 z.2.1 (tN T)).1)) 6 (shB T ((ntR z.1 z.2.1 (tN T)).1), z.2.2.1, nI 0, nI 0, nI 0, fun _ => (-1))).2.2.2.2.1), .int z.2.2.2]) (ws' := mC E a (upd (upd (upd (upd f 8 ((goR T (drN ((ntR z.1 z.2.1 (tN T)).2) 3) (sF ((ntR z.1 z.2.1 (tN T)).1)) 6 (shB T ((ntR z.1 z.2.1 (tN T)).1), z.2.2.1, nI 0, nI 0, nI 0, fun _ => (-1))).2.1)) 9 ((goR T (drN ((ntR z.1 z.2.1 (tN T)).2) 3) (sF ((ntR z.1 z.2.1 (tN T)).1)) 6 (shB T ((ntR z.1 z.2.1 (tN T)).1), z.2.2.1, nI 0, nI 0, nI 0, fun _ => (-1))).2.2.1)) 10 ((goR T (drN ((ntR z.1 z.2.1 (tN T)).2) 3) (sF ((ntR z.1 z.2.1 (tN T)).1)) 6 (shB T ((ntR z.1 z.2.1 (tN T)).1), z.2.2.1, nI 0, nI 0, nI 0, fun _ => (-1))).2.2.2.1)) 22 (sdN ((ntR z.1 z.2.1 (tN T)).2))) hh (va_up (va_up (va_up A 7 ((ntR z.1 z.2.1 (tN T)).1)) 11 ((goR T (drN ((ntR z.1 z.2.1 (tN T)).2) 3) (sF ((ntR z.1 z.2.1 (tN T)).1)) 6 (shB T ((ntR z.1 z.2.1 (tN T)).1), z.2.2.1, nI 0, nI 0, nI 0, fun _ => (-1))).2.2.2.2.2)) 23 (A 7)) ++ tl) (k' := 0) (n' := 0) rfl rfl rfl rfl rfl ?_
                      refine q_iadd F dX11_nights_150 ?_
                      refine q_istore F (lv' := [(4, .int (z.2.2.2 + ((goR T (drN ((ntR z.1 z.2.1 (tN T)).2) 3) (sF ((ntR z.1 z.2.1 (tN T)).1)) 6 (shB T ((ntR z.1 z.2.1 (tN T)).1), z.2.2.1, nI 0, nI 0, nI 0, fun _ => (-1))).2.2.2.2.1))), (6, .int (nI (drN ((ntR z.1 z.2.1 (tN T)).2) 3))), (0, .ref (a 32)), (1, .int (nI N)), (2, .int sd), (3, .int y), (5, .int (nI k))]) dX11_nights_151 (by decide) rfl ?_
                      refine q_iinc F 6 (v := nI (k + 1)) (lv' := [(5, .int (nI (k + 1))), (4, .int (z.2.2.2 + ((goR T (drN ((ntR z.1 z.2.1 (tN T)).2) 3) (sF ((ntR z.1 z.2.1 (tN T)).1)) 6 (shB T ((ntR z.1 z.2.1 (tN T)).1), z.2.2.1, nI 0, nI 0, nI 0, fun _ => (-1))).2.2.2.2.1))), (6, .int (nI (drN ((ntR z.1 z.2.1 (tN T)).2) 3))), (0, .ref (a 32)), (1, .int (nI N)), (2, .int sd), (3, .int y)]) dX11_nights_153 rfl (nI_1 _) (by decide) rfl ?_
                      refine q_goto F (tgt := 71) dX11_nights_156 (by decide) ?_
                      refine q_lv [3, 4, 5, 6, 1, 0] (lv' := [(0, .ref (a 32)), (1, .int (nI N)), (2, .int sd), (3, .int y), (4, .int (z.2.2.2 + ((goR T (drN ((ntR z.1 z.2.1 (tN T)).2) 3) (sF ((ntR z.1 z.2.1 (tN T)).1)) 6 (shB T ((ntR z.1 z.2.1 (tN T)).1), z.2.2.1, nI 0, nI 0, nI 0, fun _ => (-1))).2.2.2.2.1))), (5, .int (nI (k + 1)))]) rfl ?_
                      refine q_to (lv' := [(0, .ref (a 32)), (1, .int (nI N)), (2, .int sd), (3, .int y), (4, .int ((ntS T z).2.2.2)), (5, .int (nI (k + 1)))]) (st' := []) (ws' := mC E a (upd (upd (upd (upd f 8 (ntS T z).2.2.1) 9 ((goR T (drN ((ntR z.1 z.2.1 (tN T)).2) 3) (sF ((ntR z.1 z.2.1 (tN T)).1)) 6 (shB T ((ntR z.1 z.2.1 (tN T)).1), z.2.2.1, nI 0, nI 0, nI 0, fun _ => (-1))).2.2.1)) 10 ((goR T (drN ((ntR z.1 z.2.1 (tN T)).2) 3) (sF ((ntR z.1 z.2.1 (tN T)).1)) 6 (shB T ((ntR z.1 z.2.1 (tN T)).1), z.2.2.1, nI 0, nI 0, nI 0, fun _ => (-1))).2.2.2.1)) 22 (ntS T z).2.1) hh (va_up (va_up (va_up A 7 (ntS T z).1) 11 ((goR T (drN ((ntR z.1 z.2.1 (tN T)).2) 3) (sF ((ntR z.1 z.2.1 (tN T)).1)) 6 (shB T ((ntR z.1 z.2.1 (tN T)).1), z.2.2.1, nI 0, nI 0, nI 0, fun _ => (-1))).2.2.2.2.2)) 23 (A 7)) ++ tl) (cE (vE (rfl)) (cE (vE (rfl)) (cE (vE (rfl)) (cE (vE (rfl)) (cE (vE (congrArg Value.int (by rfl))) (cE (vE (rfl)) rfl)))))) rfl (by rfl) ?_
                      exact ih_71 (k + 1) (ntS T z) ((goR T (drN ((ntR z.1 z.2.1 (tN T)).2) 3) (sF ((ntR z.1 z.2.1 (tN T)).1)) 6 (shB T ((ntR z.1 z.2.1 (tN T)).1), z.2.2.1, nI 0, nI 0, nI 0, fun _ => (-1))).2.2.1) ((goR T (drN ((ntR z.1 z.2.1 (tN T)).2) 3) (sF ((ntR z.1 z.2.1 (tN T)).1)) 6 (shB T ((ntR z.1 z.2.1 (tN T)).1), z.2.2.1, nI 0, nI 0, nI 0, fun _ => (-1))).2.2.2.1) ((goR T (drN ((ntR z.1 z.2.1 (tN T)).2) 3) (sF ((ntR z.1 z.2.1 (tN T)).1)) 6 (shB T ((ntR z.1 z.2.1 (tN T)).1), z.2.2.1, nI 0, nI 0, nI 0, fun _ => (-1))).2.2.2.2.2) (by omega) (by rw [hz]; rfl) (ntR_rows hRz _ _) (goR_okP hO 6 _ shB_lt hpz) (by omega)
                    · skip
                      have hn_96 : i < (tN T) := nf_ge_f (by omega) (by omega) h_96
                      refine q_aload_n F 0 dX11_nights_99 rfl ?_
                      refine q_get F (ci := 11) (j := 7) (v := .ref (a 7)) (List.mem_append_left _ (List.mem_of_getElem? (i := 0) rfl)) rfl hi11 (by decide) hf13_11 rfl rfl dX11_nights_100 ?_
                      refine q_bipush F dX11_nights_103 (v := nI 8) (by decide) ?_
                      refine q_iload F 6 dX11_nights_105 rfl ?_
                      refine q_imul F dX11_nights_107 ?_
                      refine q_toi (nI (8 * i)) (pk_mul _ _) ?_
                      refine q_iconst F dX11_nights_108 (v := nI 4) (by decide) ?_
                      refine q_iadd F dX11_nights_109 ?_
                      refine q_toi (nI (8 * i + 4)) (nI_add _ _) ?_
                      refine q_aload_n F 0 dX11_nights_110 rfl ?_
                      refine q_iconst F dX11_nights_111 (v := nI 2) (by decide) ?_
                      refine q_callV F (ci := 11) (As := [.int (nI 2)]) (rest := [.int (nI (8 * i + 4)), .ref (a 7)]) (List.mem_append_left _ (List.mem_of_getElem? (i := 0) rfl)) rfl (c_X11_draw l E a (upd (upd (upd (upd f 8 z.2.2.1) 9 (nI 0)) 10 (nI 0)) 22 ((ntR z.1 z.2.1 i).2)) hh (va_up (va_up (va_up A 7 ((ntR z.1 z.2.1 i).1)) 11 I9) 23 (A 7)) tl 2 (by decide) (by decide)) (List.Perm.refl _) gX11_nights_X11_draw rfl rfl rfl hd_X11_draw ⟨by decide, by decide⟩ rfl (Nat.le_of_ble_eq_true rfl) dX11_nights_112 ⟨Nat.le_of_ble_eq_true rfl, Nat.le_of_ble_eq_true rfl⟩ (fun v_ w_ hvw => ?_)
                      rw [hvw.1, hvw.2]
                      clear hvw
                      refine q_at (pc' := 115) (st' := [.int (nI (drN ((ntR z.1 z.2.1 i).2) 2)), .int (nI (8 * i + 4)), .ref (a 7)]) (ws' := mC E a (upd (upd (upd (upd f 8 z.2.2.1) 9 (nI 0)) 10 (nI 0)) 22 (sdN ((ntR z.1 z.2.1 i).2))) hh (va_up (va_up (va_up A 7 ((ntR z.1 z.2.1 i).1)) 11 I9) 23 (A 7)) ++ tl) (k' := 0) (n' := 0) rfl rfl rfl rfl rfl ?_
                      refine q_iconst F dX11_nights_115 (v := nI 1) (by decide) ?_
                      have jn124 : gW p_ l e_ (rmL 4 0 0) s_ m_ args_ below_ meth_ c_ E A_ 7 (MQ below_ (gQ E A_ P_) args_ s_ 0 0 A_) 124 [(0, .ref (a 32)), (1, .int (nI N)), (2, .int sd), (3, .int y), (4, .int z.2.2.2), (5, .int (nI k)), (6, .int (nI i))] [.int (if drN (ntR z.1 z.2.1 i).2 2 = 1 then nI 0 else (-1)), .int (nI (8 * i + 4)), .ref (a 7)] (mC E a (upd (upd (upd (upd f 8 z.2.2.1) 9 (nI 0)) 10 (nI 0)) 22 (sdN ((ntR z.1 z.2.1 i).2))) hh (va_up (va_up (va_up A 7 ((ntR z.1 z.2.1 i).1)) 11 I9) 23 (A 7)) ++ tl) 0 0 := by
                        refine q_iast F 2 rfl (8 * i + 4) rfl (by omega) (by decide) dX11_nights_124 (ws' := mC E a (upd (upd (upd (upd f 8 z.2.2.1) 9 (nI 0)) 10 (nI 0)) 22 (sdN ((ntR z.1 z.2.1 i).2))) hh (va_up (va_up (va_up A 7 (upd ((ntR z.1 z.2.1 i).1) (8 * i + 4) (if drN (ntR z.1 z.2.1 i).2 2 = 1 then nI 0 else (-1)))) 11 I9) 23 (A 7)) ++ tl) rfl ?_
                        refine q_iinc F 6 (v := nI (i + 1)) (lv' := [(6, .int (nI (i + 1))), (0, .ref (a 32)), (1, .int (nI N)), (2, .int sd), (3, .int y), (4, .int z.2.2.2), (5, .int (nI k))]) dX11_nights_125 rfl (nI_1 _) (by decide) rfl ?_
                        refine q_goto F (tgt := 90) dX11_nights_128 (by decide) ?_
                        refine q_lv [1, 2, 3, 4, 5, 6, 0] (lv' := [(0, .ref (a 32)), (1, .int (nI N)), (2, .int sd), (3, .int y), (4, .int z.2.2.2), (5, .int (nI k)), (6, .int (nI (i + 1)))]) rfl ?_
                        refine q_to (lv' := [(0, .ref (a 32)), (1, .int (nI N)), (2, .int sd), (3, .int y), (4, .int z.2.2.2), (5, .int (nI k)), (6, .int (nI (i + 1)))]) (st' := []) (ws' := mC E a (upd (upd (upd (upd f 8 z.2.2.1) 9 (nI 0)) 10 (nI 0)) 22 ((ntR z.1 z.2.1 (i + 1)).2)) hh (va_up (va_up (va_up A 7 ((ntR z.1 z.2.1 (i + 1)).1)) 11 I9) 23 (A 7)) ++ tl) rfl rfl (by rfl) ?_
                        exact ih_90 (i + 1) (by omega) (by omega)
                      have hdr := drN_lt (ntR z.1 z.2.1 i).2 (show 0 < 2 by decide)
                      refine q_icmp_ne F (tgt := 123) dX11_nights_116 (by decide) (fun h_116 => ?_) (fun h_116 => ?_)
                      · skip
                        have hn_116 : (drN ((ntR z.1 z.2.1 i).2) 2) ≠ 1 := nf_ne_t (by omega) (by omega) h_116
                        refine q_iconst F dX11_nights_123 (v := (-1)) (by decide) ?_
                        refine q_toi (if drN (ntR z.1 z.2.1 i).2 2 = 1 then nI 0 else (-1)) (by rw [if_neg hn_116]) ?_
                        exact jn124
                      · skip
                        have hn_116 : (drN ((ntR z.1 z.2.1 i).2) 2) = 1 := nf_ne_f (by omega) (by omega) h_116
                        refine q_iconst F dX11_nights_119 (v := nI 0) (by decide) ?_
                        refine q_goto F (tgt := 124) dX11_nights_120 (by decide) ?_
                        refine q_toi (if drN (ntR z.1 z.2.1 i).2 2 = 1 then nI 0 else (-1)) (by rw [if_pos hn_116]) ?_
                        exact jn124
                refine q_lv [1, 2, 3, 4, 5, 6, 0] (lv' := [(0, .ref (a 32)), (1, .int (nI N)), (2, .int sd), (3, .int y), (4, .int z.2.2.2), (5, .int (nI k)), (6, .int (nI 0))]) rfl ?_
                refine q_to (lv' := [(0, .ref (a 32)), (1, .int (nI N)), (2, .int sd), (3, .int y), (4, .int z.2.2.2), (5, .int (nI k)), (6, .int (nI 0))]) (st' := []) (ws' := mC E a (upd (upd (upd (upd f 8 z.2.2.1) 9 (nI 0)) 10 (nI 0)) 22 ((ntR z.1 z.2.1 0).2)) hh (va_up (va_up (va_up A 7 ((ntR z.1 z.2.1 0).1)) 11 I9) 23 (A 7)) ++ tl) rfl rfl (by rfl) ?_
                exact lb90 (tN T - 0 + 1) 0 (by omega) (Nat.lt_succ_self _)
          refine q_lv [2, 3, 4, 5, 1, 0] (lv' := [(0, .ref (a 32)), (1, .int (nI N)), (2, .int sd), (3, .int y), (4, .int (nI 0)), (5, .int (nI 0))]) rfl ?_
          refine q_to (lv' := [(0, .ref (a 32)), (1, .int (nI N)), (2, .int sd), (3, .int y), (4, .int ((A 7, sd, f 3, nI 0).2.2.2)), (5, .int (nI 0))]) (st' := []) (ws' := mC E a (upd (upd (upd (upd f 8 (A 7, sd, f 3, nI 0).2.2.1) 9 (f 9)) 10 (f 10)) 22 (A 7, sd, f 3, nI 0).2.1) hh (va_up (va_up (va_up A 7 (A 7, sd, f 3, nI 0).1) 11 (A 11)) 23 (A 7)) ++ tl) (cE (vE (rfl)) (cE (vE (rfl)) (cE (vE (rfl)) (cE (vE (rfl)) (cE (vE (congrArg Value.int (by rfl))) (cE (vE (rfl)) rfl)))))) rfl (by rfl) ?_
          exact lb71 (N - 0 + 1) 0 (A 7, sd, f 3, nI 0) (f 9) (f 10) (A 11) (by omega) (rfl) (hR) (hp3) (Nat.lt_succ_self _)
        · skip
          have hb_35 := bI_1 h_35
          refine q_bipush F dX11_nights_38 (v := (-103)) (by decide) ?_
          exact q_iret F hr_ dX11_nights_40 (hp_ _ _ (Or.inr (Or.inl ⟨N, h1N, hN, rfl, h_13, hb_25, by simpa using hb_35, rfl, rfl⟩)))
      · skip
        have hb_25 := bI_0 h_25
        refine q_bipush F dX11_nights_28 (v := (-102)) (by decide) ?_
        exact q_iret F hr_ dX11_nights_30 (hp_ _ _ (Or.inl ⟨Or.inr (Or.inr hb_25), rfl, rfl⟩))
