set_option maxHeartbeats 4000000 in
set_option maxRecDepth 100000 in
theorem c_X8_has (l : Launch) (E : gEnv) (t : Nat → Nat) (T : gTown) (ws : va_W) (hT : isIn (tC E t T) ws) (x : Int32) : Cn l E yX8_has wsX8_has (rmL 0 0 0) [.ref (t 0), .int x] (ws) 0 0 (fun v w => v = some (.int (bI (hsB (tN T) x))) ∧ w = ws) := by
  refine Cn.of (own := RX8) (cc := cX8_has) (maxL := 2) (ret := (some .boolean)) (lv := [(0, .ref (t 0)), (1, .int x)]) (by decide) rfl rfl (Nat.le_of_ble_eq_true rfl) rfl ?_
  intro p_ e_ s_ m_ args_ below_ meth_ c_ A_ P_ hp_ F hr_ hnm_
  have hf36_8 : Cond.fieldLink RX8 36 "KeyOnStreet$Town" (TX8 2).2.1 (TX8 2).2.2.1 ∈ wsX8_has := by decide +kernel
  have hi8 : ∀ w ∈ u_ws RX8 TX8 4, w ∈ wsX8_has := by decide +kernel
  refine q_iload_n F 1 dX8_has_0 rfl ?_
  refine q_if_lt F (tgt := 16) dX8_has_1 (by decide) (fun h_1 => ?_) (fun h_1 => ?_)
  · skip
    have hz_1 := Int32.not_le.mpr h_1
    refine q_iconst F dX8_has_16 (v := nI 0) (by decide) ?_
    refine q_zret F hr_ (by decide) dX8_has_17 (hp_ _ _ ⟨congrArg (fun z => some (Value.int z)) ?_, ?_⟩)
    · simp [hsB, bI, *]
    · rfl
  · skip
    have hz_1 := Int32.not_lt.mp h_1
    refine q_iload_n F 1 dX8_has_4 rfl ?_
    refine q_aload_n F 0 dX8_has_5 rfl ?_
    refine q_get F (ci := 8) (j := 2) (hT _ (List.mem_of_getElem? (i := 0) rfl)) rfl hi8 (by decide) hf36_8 rfl rfl dX8_has_6 ?_
    refine q_icmp_ge F (tgt := 16) dX8_has_9 (by decide) (fun h_9 => ?_) (fun h_9 => ?_)
    · skip
      have hz_9 := Int32.not_lt.mpr h_9
      refine q_iconst F dX8_has_16 (v := nI 0) (by decide) ?_
      refine q_zret F hr_ (by decide) dX8_has_17 (hp_ _ _ ⟨congrArg (fun z => some (Value.int z)) ?_, ?_⟩)
      · simp [hsB, bI, *]
      · rfl
    · skip
      have hz_9 := Int32.not_le.mp h_9
      refine q_iconst F dX8_has_12 (v := nI 1) (by decide) ?_
      refine q_goto F (tgt := 17) dX8_has_13 (by decide) ?_
      refine q_zret F hr_ (by decide) dX8_has_17 (hp_ _ _ ⟨congrArg (fun z => some (Value.int z)) ?_, ?_⟩)
      · simp [hsB, bI, *]
      · rfl

set_option maxHeartbeats 4000000 in
set_option maxRecDepth 100000 in
theorem c_X8_at (l : Launch) (E : gEnv) (t : Nat → Nat) (T : gTown) (ws : va_W) (hT : isIn (tC E t T) ws) (h : Nat) (hh : h < tN T) (hn : tN T ≤ 6) : Cn l E yX8_at wsX8_at (rmL 0 0 0) [.ref (t 0), .int (nI h)] (ws) 0 0 (fun v w => v = some (.ref (tA T h)) ∧ w = ws) := by
  refine Cn.of (own := RX8) (cc := cX8_at) (maxL := 3) (ret := (some (.object "KeyOnStreet$House"))) (lv := [(0, .ref (t 0)), (1, .int (nI h))]) (by decide) rfl rfl (Nat.le_of_ble_eq_true rfl) rfl ?_
  intro p_ e_ s_ m_ args_ below_ meth_ c_ A_ P_ hp_ F hr_ hnm_
  have hf11_8 : Cond.fieldLink RX8 11 "KeyOnStreet$Town" (TX8 0).2.1 (TX8 0).2.2.1 ∈ wsX8_at := by decide +kernel
  have hi8 : ∀ w ∈ u_ws RX8 TX8 4, w ∈ wsX8_at := by decide +kernel
  refine q_iload_n F 1 dX8_at_0 rfl ?_
  refine q_if_lt F (tgt := 10) dX8_at_1 (by decide) (fun h_1 => ?_) (fun h_1 => ?_)
  · skip
    have hn_1 : h < 0 := nf_lt_t0 (by omega) h_1
    omega
  · skip
    have hn_1 : h ≥ 0 := nf_lt_f0 (by omega) h_1
    refine q_iload_n F 1 dX8_at_4 rfl ?_
    refine q_bipush F dX8_at_5 (v := nI 6) (by decide) ?_
    refine q_icmp_lt F (tgt := 14) dX8_at_7 (by decide) (fun h_7 => ?_) (fun h_7 => ?_)
    · skip
      have hn_7 : h < 6 := nf_lt_t (by omega) (by omega) h_7
      refine q_aload_n F 0 dX8_at_14 rfl ?_
      refine q_get F (ci := 8) (j := 0) (hT _ (List.mem_of_getElem? (i := 0) rfl)) rfl hi8 (by decide) hf11_8 rfl rfl dX8_at_15 ?_
      refine q_iload_n F 1 dX8_at_18 rfl ?_
      refine q_ald2 F (r := some (tA T h)) (hT _ (List.mem_of_getElem? (i := 1) rfl)) h rfl (by omega) (by decide) (by simp [tR, hh]) dX8_at_19 ?_
      refine q_at (pc' := 20) (st' := [.ref (tA T h)]) (ws' := ws) (k' := 0) (n' := 0) rfl rfl rfl rfl rfl ?_
      refine q_astore_n F (lv' := [(2, .ref (tA T h)), (0, .ref (t 0)), (1, .int (nI h))]) dX8_at_20 (by decide) rfl ?_
      refine q_aload_n F 0 dX8_at_21 rfl ?_
      refine q_ifnonnull F (tgt := 32) dX8_at_22 (by decide) ?_
      refine q_aload_n F 0 dX8_at_32 rfl ?_
      refine q_aret F hr_ dX8_at_33 (hp_ _ _ ⟨congrArg (fun z => some (Value.ref z)) ?_, ?_⟩)
      · first | rfl | simp_all
      · rfl
    · skip
      have hn_7 : h ≥ 6 := nf_lt_f (by omega) (by omega) h_7
      omega

set_option maxHeartbeats 4000000 in
set_option maxRecDepth 100000 in
theorem c_X8_mayBeOpened (l : Launch) (E : gEnv) (t : Nat → Nat) (T : gTown) (ws : va_W) (hT : isIn (tC E t T) ws) (x : Int32) : Cn l E yX8_mayBeOpened wsX8_mayBeOpened (rmL 0 0 0) [.ref (t 0), .int x] (ws) 0 0 (fun v w => v = some (.int (mayB (mwB T 6) x)) ∧ w = ws) := by
  refine Cn.of (own := RX8) (cc := cX8_mayBeOpened) (maxL := 3) (ret := (some .int)) (lv := [(0, .ref (t 0)), (1, .int x)]) (by decide) rfl rfl (Nat.le_of_ble_eq_true rfl) rfl ?_
  intro p_ e_ s_ m_ args_ below_ meth_ c_ A_ P_ hp_ F hr_ hnm_
  have hf40_8 : Cond.fieldLink RX8 40 "KeyOnStreet$Town" (TX8 3).2.1 (TX8 3).2.2.1 ∈ wsX8_mayBeOpened := by decide +kernel
  have hi8 : ∀ w ∈ u_ws RX8 TX8 4, w ∈ wsX8_mayBeOpened := by decide +kernel
  refine q_iload_n F 1 dX8_mayBeOpened_0 rfl ?_
  refine q_aload_n F 0 dX8_mayBeOpened_1 rfl ?_
  refine q_get F (ci := 8) (j := 3) (hT _ (List.mem_of_getElem? (i := 0) rfl)) rfl hi8 (by decide) hf40_8 rfl rfl dX8_mayBeOpened_2 ?_
  refine q_iand F dX8_mayBeOpened_5 ?_
  refine q_istore_n F (lv' := [(2, .int (x &&& (mwB T 6))), (0, .ref (t 0)), (1, .int x)]) dX8_mayBeOpened_6 (by decide) rfl ?_
  refine q_iload_n F 0 dX8_mayBeOpened_7 rfl ?_
  refine q_if_eq F (tgt := 15) dX8_mayBeOpened_8 (by decide) (fun h_8 => ?_) (fun h_8 => ?_)
  · skip
    refine q_iload_n F 2 dX8_mayBeOpened_15 rfl ?_
    refine q_iret F hr_ dX8_mayBeOpened_16 (hp_ _ _ ⟨congrArg (fun z => some (Value.int z)) ?_, ?_⟩)
    · simp [mayB, *]
    · rfl
  · skip
    refine q_iload_n F 0 dX8_mayBeOpened_11 rfl ?_
    refine q_goto F (tgt := 16) dX8_mayBeOpened_12 (by decide) ?_
    refine q_iret F hr_ dX8_mayBeOpened_16 (hp_ _ _ ⟨congrArg (fun z => some (Value.int z)) ?_, ?_⟩)
    · simp [mayB, *]
    · rfl

set_option maxHeartbeats 4000000 in
set_option maxRecDepth 100000 in
theorem c_X5_waiting (l : Launch) (E : gEnv) (a t : Nat → Nat) (T : gTown) (sn : Int32) (B : Nat → Nat → Int32) (kp km ku : Int32) (ws : va_W) (hN : isIn (nC E a (t 0) sn B) ws) (hK : isIn (kC (a 1) kp km ku) ws) (hT : isIn (tC E t T) ws) (hH : isHs T ws) (hn : tN T ≤ 6) : Cn l E yX5_waiting wsX5_waiting (rmL 0 0 0) [.ref (a 0)] (ws) 0 0 (fun v w => v = some (.int (wtB (B 2) 6)) ∧ w = ws) := by
  refine Cn.of (own := RX5) (cc := cX5_waiting) (maxL := 3) (ret := (some .int)) (lv := [(0, .ref (a 0))]) (by decide) rfl rfl (Nat.le_of_ble_eq_true rfl) rfl ?_
  intro p_ e_ s_ m_ args_ below_ meth_ c_ A_ P_ hp_ F hr_ hnm_
  have hf18_5 : Cond.fieldLink RX5 18 "KeyOnStreet$Night" (TX5 2).2.1 (TX5 2).2.2.1 ∈ wsX5_waiting := by decide +kernel
  have hi5 : ∀ w ∈ u_ws RX5 TX5 10, w ∈ wsX5_waiting := by decide +kernel
  refine q_iconst F dX5_waiting_0 (v := nI 0) (by decide) ?_
  refine q_istore_n F (lv' := [(1, .int (nI 0)), (0, .ref (a 0))]) dX5_waiting_1 (by decide) rfl ?_
  refine q_iconst F dX5_waiting_2 (v := nI 0) (by decide) ?_
  refine q_istore_n F (lv' := [(2, .int (nI 0)), (1, .int (nI 0)), (0, .ref (a 0))]) dX5_waiting_3 (by decide) rfl ?_
  have lb4 : ∀ (fu : Nat) (i : Nat) (hi : i ≤ 6), 6 - i < fu → gW p_ l e_ (rmL 0 0 0) s_ m_ args_ below_ meth_ c_ E A_ 3 (MQ below_ (gQ E A_ P_) args_ s_ 0 0 A_) 4 [(0, .ref (a 0)), (1, .int (wtB (B 2) i)), (2, .int (nI i))] [] (ws) 0 0 := by
    intro fu_4
    induction fu_4 with
    | zero => intro i hi hfu; exact absurd hfu (Nat.not_lt_zero _)
    | succ fu_4 ih_4 =>
      intro i hi hfu_4
      refine q_iload_n F 2 dX5_waiting_4 rfl ?_
      refine q_bipush F dX5_waiting_5 (v := nI 6) (by decide) ?_
      refine q_icmp_ge F (tgt := 32) dX5_waiting_7 (by decide) (fun h_7 => ?_) (fun h_7 => ?_)
      · skip
        have hn_7 : i ≥ 6 := nf_ge_t (by omega) (by omega) h_7
        refine q_iload_n F 1 dX5_waiting_32 rfl ?_
        refine q_iret F hr_ dX5_waiting_33 (hp_ _ _ ⟨congrArg (fun z => some (Value.int z)) ?_, ?_⟩)
        · (have e6 : i = 6 := by omega); rw [e6]
        · rfl
      · skip
        have hn_7 : i < 6 := nf_ge_f (by omega) (by omega) h_7
        refine q_aload_n F 0 dX5_waiting_10 rfl ?_
        refine q_get F (ci := 5) (j := 2) (hN _ (List.mem_of_getElem? (i := 0) rfl)) rfl hi5 (by decide) hf18_5 rfl rfl dX5_waiting_11 ?_
        refine q_iload_n F 2 dX5_waiting_14 rfl ?_
        refine q_iald F (hN _ (List.mem_of_getElem? (i := 1) rfl)) i rfl (by omega) (by decide) dX5_waiting_15 ?_
        refine q_iconst F dX5_waiting_16 (v := (-1)) (by decide) ?_
        refine q_icmp_eq F (tgt := 26) dX5_waiting_17 (by decide) (fun h_17 => ?_) (fun h_17 => ?_)
        · skip
          refine q_iinc F 2 (v := nI (i + 1)) (lv' := [(2, .int (nI (i + 1))), (0, .ref (a 0)), (1, .int (wtB (B 2) i))]) dX5_waiting_26 rfl (nI_1 _) (by decide) rfl ?_
          refine q_goto F (tgt := 4) dX5_waiting_29 (by decide) ?_
          refine q_lv [1, 2, 0] (lv' := [(0, .ref (a 0)), (1, .int (wtB (B 2) i)), (2, .int (nI (i + 1)))]) rfl ?_
          refine q_to (lv' := [(0, .ref (a 0)), (1, .int (wtB (B 2) (i + 1))), (2, .int (nI (i + 1)))]) (st' := []) (ws' := ws) (cE (vE (rfl)) (cE (vE (congrArg Value.int (by first | rfl | simp [wtB, *]))) (cE (vE (rfl)) rfl))) rfl rfl ?_
          exact ih_4 (i + 1) (by omega) (by omega)
        · skip
          refine q_iload_n F 1 dX5_waiting_20 rfl ?_
          refine q_iconst F dX5_waiting_21 (v := nI 1) (by decide) ?_
          refine q_iload_n F 2 dX5_waiting_22 rfl ?_
          refine q_ishl F dX5_waiting_23 ?_
          refine q_ior F dX5_waiting_24 ?_
          refine q_istore_n F (lv' := [(1, .int ((wtB (B 2) i) ||| ((nI 1) <<< ((nI i) &&& 31)))), (0, .ref (a 0)), (2, .int (nI i))]) dX5_waiting_25 (by decide) rfl ?_
          refine q_iinc F 2 (v := nI (i + 1)) (lv' := [(2, .int (nI (i + 1))), (1, .int ((wtB (B 2) i) ||| ((nI 1) <<< ((nI i) &&& 31)))), (0, .ref (a 0))]) dX5_waiting_26 rfl (nI_1 _) (by decide) rfl ?_
          refine q_goto F (tgt := 4) dX5_waiting_29 (by decide) ?_
          refine q_lv [2, 1, 0] (lv' := [(0, .ref (a 0)), (1, .int ((wtB (B 2) i) ||| ((nI 1) <<< ((nI i) &&& 31)))), (2, .int (nI (i + 1)))]) rfl ?_
          refine q_to (lv' := [(0, .ref (a 0)), (1, .int (wtB (B 2) (i + 1))), (2, .int (nI (i + 1)))]) (st' := []) (ws' := ws) (cE (vE (rfl)) (cE (vE (congrArg Value.int (by first | rfl | simp [wtB, *]))) (cE (vE (rfl)) rfl))) rfl rfl ?_
          exact ih_4 (i + 1) (by omega) (by omega)
  refine q_lv [2, 1, 0] (lv' := [(0, .ref (a 0)), (1, .int (nI 0)), (2, .int (nI 0))]) rfl ?_
  refine q_to (lv' := [(0, .ref (a 0)), (1, .int (wtB (B 2) 0)), (2, .int (nI 0))]) (st' := []) (ws' := ws) (cE (vE (rfl)) (cE (vE (congrArg Value.int (by first | rfl | simp [wtB, *]))) (cE (vE (rfl)) rfl))) rfl rfl ?_
  exact lb4 (6 - 0 + 1) 0 (by omega) (Nat.lt_succ_self _)

set_option maxHeartbeats 4000000 in
set_option maxRecDepth 100000 in
theorem c_X5_lateOfAll (l : Launch) (E : gEnv) (a t : Nat → Nat) (T : gTown) (sn : Int32) (B : Nat → Nat → Int32) (kp km ku : Int32) (ws : va_W) (hN : isIn (nC E a (t 0) sn B) ws) (hK : isIn (kC (a 1) kp km ku) ws) (hT : isIn (tC E t T) ws) (hH : isHs T ws) (hn : tN T ≤ 6) : Cn l E yX5_lateOfAll wsX5_lateOfAll (rmL 0 0 0) [.ref (a 0)] (ws) 0 0 (fun v w => v = some (.int (sumB (B 4) 6)) ∧ w = ws) := by
  refine Cn.of (own := RX5) (cc := cX5_lateOfAll) (maxL := 3) (ret := (some .int)) (lv := [(0, .ref (a 0))]) (by decide) rfl rfl (Nat.le_of_ble_eq_true rfl) rfl ?_
  intro p_ e_ s_ m_ args_ below_ meth_ c_ A_ P_ hp_ F hr_ hnm_
  have hf25_5 : Cond.fieldLink RX5 25 "KeyOnStreet$Night" (TX5 4).2.1 (TX5 4).2.2.1 ∈ wsX5_lateOfAll := by decide +kernel
  have hi5 : ∀ w ∈ u_ws RX5 TX5 10, w ∈ wsX5_lateOfAll := by decide +kernel
  refine q_iconst F dX5_lateOfAll_0 (v := nI 0) (by decide) ?_
  refine q_istore_n F (lv' := [(1, .int (nI 0)), (0, .ref (a 0))]) dX5_lateOfAll_1 (by decide) rfl ?_
  refine q_iconst F dX5_lateOfAll_2 (v := nI 0) (by decide) ?_
  refine q_istore_n F (lv' := [(2, .int (nI 0)), (1, .int (nI 0)), (0, .ref (a 0))]) dX5_lateOfAll_3 (by decide) rfl ?_
  have lb4 : ∀ (fu : Nat) (i : Nat) (hi : i ≤ 6), 6 - i < fu → gW p_ l e_ (rmL 0 0 0) s_ m_ args_ below_ meth_ c_ E A_ 3 (MQ below_ (gQ E A_ P_) args_ s_ 0 0 A_) 4 [(0, .ref (a 0)), (1, .int (sumB (B 4) i)), (2, .int (nI i))] [] (ws) 0 0 := by
    intro fu_4
    induction fu_4 with
    | zero => intro i hi hfu; exact absurd hfu (Nat.not_lt_zero _)
    | succ fu_4 ih_4 =>
      intro i hi hfu_4
      refine q_iload_n F 2 dX5_lateOfAll_4 rfl ?_
      refine q_bipush F dX5_lateOfAll_5 (v := nI 6) (by decide) ?_
      refine q_icmp_ge F (tgt := 25) dX5_lateOfAll_7 (by decide) (fun h_7 => ?_) (fun h_7 => ?_)
      · skip
        have hn_7 : i ≥ 6 := nf_ge_t (by omega) (by omega) h_7
        refine q_iload_n F 1 dX5_lateOfAll_25 rfl ?_
        refine q_iret F hr_ dX5_lateOfAll_26 (hp_ _ _ ⟨congrArg (fun z => some (Value.int z)) ?_, ?_⟩)
        · (have e6 : i = 6 := by omega); rw [e6]
        · rfl
      · skip
        have hn_7 : i < 6 := nf_ge_f (by omega) (by omega) h_7
        refine q_iload_n F 1 dX5_lateOfAll_10 rfl ?_
        refine q_aload_n F 0 dX5_lateOfAll_11 rfl ?_
        refine q_get F (ci := 5) (j := 4) (hN _ (List.mem_of_getElem? (i := 0) rfl)) rfl hi5 (by decide) hf25_5 rfl rfl dX5_lateOfAll_12 ?_
        refine q_iload_n F 2 dX5_lateOfAll_15 rfl ?_
        refine q_iald F (hN _ (List.mem_of_getElem? (i := 3) rfl)) i rfl (by omega) (by decide) dX5_lateOfAll_16 ?_
        refine q_iadd F dX5_lateOfAll_17 ?_
        refine q_istore_n F (lv' := [(1, .int ((sumB (B 4) i) + (B 4 i))), (0, .ref (a 0)), (2, .int (nI i))]) dX5_lateOfAll_18 (by decide) rfl ?_
        refine q_iinc F 2 (v := nI (i + 1)) (lv' := [(2, .int (nI (i + 1))), (1, .int ((sumB (B 4) i) + (B 4 i))), (0, .ref (a 0))]) dX5_lateOfAll_19 rfl (nI_1 _) (by decide) rfl ?_
        refine q_goto F (tgt := 4) dX5_lateOfAll_22 (by decide) ?_
        refine q_lv [2, 1, 0] (lv' := [(0, .ref (a 0)), (1, .int ((sumB (B 4) i) + (B 4 i))), (2, .int (nI (i + 1)))]) rfl ?_
        refine q_to (lv' := [(0, .ref (a 0)), (1, .int (sumB (B 4) (i + 1))), (2, .int (nI (i + 1)))]) (st' := []) (ws' := ws) (cE (vE (rfl)) (cE (vE (congrArg Value.int (by first | rfl | simp [sumB, *]))) (cE (vE (rfl)) rfl))) rfl rfl ?_
        exact ih_4 (i + 1) (by omega) (by omega)
  refine q_lv [2, 1, 0] (lv' := [(0, .ref (a 0)), (1, .int (nI 0)), (2, .int (nI 0))]) rfl ?_
  refine q_to (lv' := [(0, .ref (a 0)), (1, .int (sumB (B 4) 0)), (2, .int (nI 0))]) (st' := []) (ws' := ws) (cE (vE (rfl)) (cE (vE (congrArg Value.int (by first | rfl | simp [sumB, *]))) (cE (vE (rfl)) rfl))) rfl rfl ?_
  exact lb4 (6 - 0 + 1) 0 (by omega) (Nat.lt_succ_self _)

set_option maxHeartbeats 4000000 in
set_option maxRecDepth 100000 in
theorem c_X5_outOfAll (l : Launch) (E : gEnv) (a t : Nat → Nat) (T : gTown) (sn : Int32) (B : Nat → Nat → Int32) (kp km ku : Int32) (ws : va_W) (hN : isIn (nC E a (t 0) sn B) ws) (hK : isIn (kC (a 1) kp km ku) ws) (hT : isIn (tC E t T) ws) (hH : isHs T ws) (hn : tN T ≤ 6) : Cn l E yX5_outOfAll wsX5_outOfAll (rmL 0 0 0) [.ref (a 0)] (ws) 0 0 (fun v w => v = some (.int (sumB (B 5) 6)) ∧ w = ws) := by
  refine Cn.of (own := RX5) (cc := cX5_outOfAll) (maxL := 3) (ret := (some .int)) (lv := [(0, .ref (a 0))]) (by decide) rfl rfl (Nat.le_of_ble_eq_true rfl) rfl ?_
  intro p_ e_ s_ m_ args_ below_ meth_ c_ A_ P_ hp_ F hr_ hnm_
  have hf28_5 : Cond.fieldLink RX5 28 "KeyOnStreet$Night" (TX5 5).2.1 (TX5 5).2.2.1 ∈ wsX5_outOfAll := by decide +kernel
  have hi5 : ∀ w ∈ u_ws RX5 TX5 10, w ∈ wsX5_outOfAll := by decide +kernel
  refine q_iconst F dX5_outOfAll_0 (v := nI 0) (by decide) ?_
  refine q_istore_n F (lv' := [(1, .int (nI 0)), (0, .ref (a 0))]) dX5_outOfAll_1 (by decide) rfl ?_
  refine q_iconst F dX5_outOfAll_2 (v := nI 0) (by decide) ?_
  refine q_istore_n F (lv' := [(2, .int (nI 0)), (1, .int (nI 0)), (0, .ref (a 0))]) dX5_outOfAll_3 (by decide) rfl ?_
  have lb4 : ∀ (fu : Nat) (i : Nat) (hi : i ≤ 6), 6 - i < fu → gW p_ l e_ (rmL 0 0 0) s_ m_ args_ below_ meth_ c_ E A_ 3 (MQ below_ (gQ E A_ P_) args_ s_ 0 0 A_) 4 [(0, .ref (a 0)), (1, .int (sumB (B 5) i)), (2, .int (nI i))] [] (ws) 0 0 := by
    intro fu_4
    induction fu_4 with
    | zero => intro i hi hfu; exact absurd hfu (Nat.not_lt_zero _)
    | succ fu_4 ih_4 =>
      intro i hi hfu_4
      refine q_iload_n F 2 dX5_outOfAll_4 rfl ?_
      refine q_bipush F dX5_outOfAll_5 (v := nI 6) (by decide) ?_
      refine q_icmp_ge F (tgt := 25) dX5_outOfAll_7 (by decide) (fun h_7 => ?_) (fun h_7 => ?_)
      · skip
        have hn_7 : i ≥ 6 := nf_ge_t (by omega) (by omega) h_7
        refine q_iload_n F 1 dX5_outOfAll_25 rfl ?_
        refine q_iret F hr_ dX5_outOfAll_26 (hp_ _ _ ⟨congrArg (fun z => some (Value.int z)) ?_, ?_⟩)
        · (have e6 : i = 6 := by omega); rw [e6]
        · rfl
      · skip
        have hn_7 : i < 6 := nf_ge_f (by omega) (by omega) h_7
        refine q_iload_n F 1 dX5_outOfAll_10 rfl ?_
        refine q_aload_n F 0 dX5_outOfAll_11 rfl ?_
        refine q_get F (ci := 5) (j := 5) (hN _ (List.mem_of_getElem? (i := 0) rfl)) rfl hi5 (by decide) hf28_5 rfl rfl dX5_outOfAll_12 ?_
        refine q_iload_n F 2 dX5_outOfAll_15 rfl ?_
        refine q_iald F (hN _ (List.mem_of_getElem? (i := 4) rfl)) i rfl (by omega) (by decide) dX5_outOfAll_16 ?_
        refine q_iadd F dX5_outOfAll_17 ?_
        refine q_istore_n F (lv' := [(1, .int ((sumB (B 5) i) + (B 5 i))), (0, .ref (a 0)), (2, .int (nI i))]) dX5_outOfAll_18 (by decide) rfl ?_
        refine q_iinc F 2 (v := nI (i + 1)) (lv' := [(2, .int (nI (i + 1))), (1, .int ((sumB (B 5) i) + (B 5 i))), (0, .ref (a 0))]) dX5_outOfAll_19 rfl (nI_1 _) (by decide) rfl ?_
        refine q_goto F (tgt := 4) dX5_outOfAll_22 (by decide) ?_
        refine q_lv [2, 1, 0] (lv' := [(0, .ref (a 0)), (1, .int ((sumB (B 5) i) + (B 5 i))), (2, .int (nI (i + 1)))]) rfl ?_
        refine q_to (lv' := [(0, .ref (a 0)), (1, .int (sumB (B 5) (i + 1))), (2, .int (nI (i + 1)))]) (st' := []) (ws' := ws) (cE (vE (rfl)) (cE (vE (congrArg Value.int (by first | rfl | simp [sumB, *]))) (cE (vE (rfl)) rfl))) rfl rfl ?_
        exact ih_4 (i + 1) (by omega) (by omega)
  refine q_lv [2, 1, 0] (lv' := [(0, .ref (a 0)), (1, .int (nI 0)), (2, .int (nI 0))]) rfl ?_
  refine q_to (lv' := [(0, .ref (a 0)), (1, .int (sumB (B 5) 0)), (2, .int (nI 0))]) (st' := []) (ws' := ws) (cE (vE (rfl)) (cE (vE (congrArg Value.int (by first | rfl | simp [sumB, *]))) (cE (vE (rfl)) rfl))) rfl rfl ?_
  exact lb4 (6 - 0 + 1) 0 (by omega) (Nat.lt_succ_self _)

set_option maxHeartbeats 4000000 in
set_option maxRecDepth 100000 in
theorem c_X5_isOut (l : Launch) (E : gEnv) (a t : Nat → Nat) (T : gTown) (sn : Int32) (B : Nat → Nat → Int32) (kp km ku : Int32) (ws : va_W) (hN : isIn (nC E a (t 0) sn B) ws) (hK : isIn (kC (a 1) kp km ku) ws) (hT : isIn (tC E t T) ws) (hH : isHs T ws) (hn : tN T ≤ 6) (h : Nat) (hh : h < tN T) : Cn l E yX5_isOut wsX5_isOut (rmL 1 0 0) [.ref (a 0), .int (nI h)] (ws) 0 0 (fun v w => v = some (.int (bI (outB (B 2) h))) ∧ w = ws) := by
  refine Cn.of (own := RX5) (cc := cX5_isOut) (maxL := 2) (ret := (some .boolean)) (lv := [(0, .ref (a 0)), (1, .int (nI h))]) (by decide) rfl rfl (Nat.le_of_ble_eq_true rfl) rfl ?_
  intro p_ e_ s_ m_ args_ below_ meth_ c_ A_ P_ hp_ F hr_ hnm_
  have hf41_5 : Cond.fieldLink RX5 41 "KeyOnStreet$Night" (TX5 0).2.1 (TX5 0).2.2.1 ∈ wsX5_isOut := by decide +kernel
  have hi5 : ∀ w ∈ u_ws RX5 TX5 10, w ∈ wsX5_isOut := by decide +kernel
  have hd_X8_has : yX8_has.cls = RX8 ∧ yX8_has.cls ≠ "java/lang/invoke/MethodHandle" ∧ yX8_has.cls ≠ "java/lang/invoke/VarHandle" ∧ (parseMethodDescriptor yX8_has.desc).map (fun d => d.parameters.length) = some 1 := by decide +kernel
  have hf18_5 : Cond.fieldLink RX5 18 "KeyOnStreet$Night" (TX5 2).2.1 (TX5 2).2.2.1 ∈ wsX5_isOut := by decide +kernel
  refine q_aload_n F 0 dX5_isOut_0 rfl ?_
  refine q_get F (ci := 5) (j := 0) (hN _ (List.mem_of_getElem? (i := 0) rfl)) rfl hi5 (by decide) hf41_5 rfl rfl dX5_isOut_1 ?_
  refine q_iload_n F 1 dX5_isOut_4 rfl ?_
  refine q_callV F (ci := 8) (As := [.int (nI h)]) (rest := []) (hT _ (List.mem_of_getElem? (i := 0) rfl)) rfl (c_X8_has l E t T ws hT (nI h)) (List.Perm.refl _) gX5_isOut_X8_has rfl rfl rfl hd_X8_has ⟨by decide, by decide⟩ rfl (Nat.le_of_ble_eq_true rfl) dX5_isOut_5 ⟨by decide, by decide⟩ (fun v_ w_ hvw => ?_)
  rw [hvw.1, hvw.2]
  clear hvw
  refine q_at (pc' := 8) (st' := [.int (bI (hsB (tN T) (nI h)))]) (ws' := ws) (k' := 0) (n' := 0) rfl rfl rfl rfl rfl ?_
  refine q_if_eq F (tgt := 25) dX5_isOut_8 (by decide) (fun h_8 => ?_) (fun h_8 => ?_)
  · skip
    have hb_8 := bI_0 h_8
    exact absurd hb_8 (by rw [hsB_t hn hh]; decide)
  · skip
    have hb_8 := bI_1 h_8
    refine q_aload_n F 0 dX5_isOut_11 rfl ?_
    refine q_get F (ci := 5) (j := 2) (hN _ (List.mem_of_getElem? (i := 0) rfl)) rfl hi5 (by decide) hf18_5 rfl rfl dX5_isOut_12 ?_
    refine q_iload_n F 1 dX5_isOut_15 rfl ?_
    refine q_iald F (hN _ (List.mem_of_getElem? (i := 1) rfl)) h rfl (by omega) (by decide) dX5_isOut_16 ?_
    refine q_iconst F dX5_isOut_17 (v := (-1)) (by decide) ?_
    refine q_icmp_eq F (tgt := 25) dX5_isOut_18 (by decide) (fun h_18 => ?_) (fun h_18 => ?_)
    · skip
      refine q_iconst F dX5_isOut_25 (v := nI 0) (by decide) ?_
      refine q_zret F hr_ (by decide) dX5_isOut_26 (hp_ _ _ ⟨congrArg (fun z => some (Value.int z)) ?_, ?_⟩)
      · simp [outB, bI, *]
      · rfl
    · skip
      refine q_iconst F dX5_isOut_21 (v := nI 1) (by decide) ?_
      refine q_goto F (tgt := 26) dX5_isOut_22 (by decide) ?_
      refine q_zret F hr_ (by decide) dX5_isOut_26 (hp_ _ _ ⟨congrArg (fun z => some (Value.int z)) ?_, ?_⟩)
      · simp [outB, bI, *]
      · rfl

set_option maxHeartbeats 4000000 in
set_option maxRecDepth 100000 in
theorem c_X5_rankBy (l : Launch) (E : gEnv) (a t : Nat → Nat) (T : gTown) (sn : Int32) (B : Nat → Nat → Int32) (kp km ku : Int32) (ws : va_W) (hN : isIn (nC E a (t 0) sn B) ws) (hK : isIn (kC (a 1) kp km ku) ws) (hT : isIn (tC E t T) ws) (hH : isHs T ws) (hn : tN T ≤ 6) (lw h : Nat) (hl3 : lw < 3) (hh : h < tN T) : Cn l E yX5_rankBy wsX5_rankBy (rmL 1 0 0) [.ref (a 0), .int (nI lw), .int (nI h)] (ws) 0 0 (fun v w => v = some (.int (rkF T lw (B 2) kp h)) ∧ w = ws) := by
  refine Cn.of (own := RX5) (cc := cX5_rankBy) (maxL := 3) (ret := (some .int)) (lv := [(0, .ref (a 0)), (1, .int (nI lw)), (2, .int (nI h))]) (by decide) rfl rfl (Nat.le_of_ble_eq_true rfl) rfl ?_
  intro p_ e_ s_ m_ args_ below_ meth_ c_ A_ P_ hp_ F hr_ hnm_
  have hf18_5 : Cond.fieldLink RX5 18 "KeyOnStreet$Night" (TX5 2).2.1 (TX5 2).2.2.1 ∈ wsX5_rankBy := by decide +kernel
  have hi5 : ∀ w ∈ u_ws RX5 TX5 10, w ∈ wsX5_rankBy := by decide +kernel
  have hf12_5 : Cond.fieldLink RX5 12 "KeyOnStreet$Night" (TX5 1).2.1 (TX5 1).2.2.1 ∈ wsX5_rankBy := by decide +kernel
  have hf101_2 : Cond.fieldLink RX5 101 "KeyOnStreet$Key" (TX2 0).2.1 (TX2 0).2.2.1 ∈ wsX5_rankBy := by decide +kernel
  have hi2 : ∀ w ∈ u_ws RX2 TX2 3, w ∈ wsX5_rankBy := by decide +kernel
  have hf41_5 : Cond.fieldLink RX5 41 "KeyOnStreet$Night" (TX5 0).2.1 (TX5 0).2.2.1 ∈ wsX5_rankBy := by decide +kernel
  have hd_X8_at : yX8_at.cls = RX8 ∧ yX8_at.cls ≠ "java/lang/invoke/MethodHandle" ∧ yX8_at.cls ≠ "java/lang/invoke/VarHandle" ∧ (parseMethodDescriptor yX8_at.desc).map (fun d => d.parameters.length) = some 1 := by decide +kernel
  have hf109_0 : Cond.fieldLink RX5 109 "KeyOnStreet$House" (TX0 0).2.1 (TX0 0).2.2.1 ∈ wsX5_rankBy := by decide +kernel
  have hi0 : ∀ w ∈ u_ws RX0 TX0 3, w ∈ wsX5_rankBy := by decide +kernel
  have hm110_0 : Cond.methodLink RX5 110 Lib.Math.abs.name ∈ wsX5_rankBy := by decide +kernel
  have hm110_1 : Cond.static Lib.Math.abs.name ∈ wsX5_rankBy := by decide +kernel
  have hm110_2 : Cond.initialized "java/lang/Math" ∈ wsX5_rankBy := by decide +kernel
  have hm110_3 : Cond.code Lib.Math.abs.name Lib.Math.abs.code 1 (some .int) ∈ wsX5_rankBy := by decide +kernel
  have hf109_4 : Cond.fieldLink RX5 109 "KeyOnStreet$House" (TX4 0).2.1 (TX4 0).2.2.1 ∈ wsX5_rankBy := by decide +kernel
  have hi4 : ∀ w ∈ u_ws RX4 TX4 3, w ∈ wsX5_rankBy := by decide +kernel
  have hf109_1 : Cond.fieldLink RX5 109 "KeyOnStreet$House" (TX1 0).2.1 (TX1 0).2.2.1 ∈ wsX5_rankBy := by decide +kernel
  have hi1 : ∀ w ∈ u_ws RX1 TX1 3, w ∈ wsX5_rankBy := by decide +kernel
  have hf109_9 : Cond.fieldLink RX5 109 "KeyOnStreet$House" (TX9 0).2.1 (TX9 0).2.2.1 ∈ wsX5_rankBy := by decide +kernel
  have hi9 : ∀ w ∈ u_ws RX9 TX9 3, w ∈ wsX5_rankBy := by decide +kernel
  have hf109_3 : Cond.fieldLink RX5 109 "KeyOnStreet$House" (TX3 0).2.1 (TX3 0).2.2.1 ∈ wsX5_rankBy := by decide +kernel
  have hi3 : ∀ w ∈ u_ws RX3 TX3 3, w ∈ wsX5_rankBy := by decide +kernel
  have hf115_0 : Cond.fieldLink RX5 115 "KeyOnStreet$House" (TX0 1).2.1 (TX0 1).2.2.1 ∈ wsX5_rankBy := by decide +kernel
  have hf115_4 : Cond.fieldLink RX5 115 "KeyOnStreet$House" (TX4 1).2.1 (TX4 1).2.2.1 ∈ wsX5_rankBy := by decide +kernel
  have hf115_1 : Cond.fieldLink RX5 115 "KeyOnStreet$House" (TX1 1).2.1 (TX1 1).2.2.1 ∈ wsX5_rankBy := by decide +kernel
  have hf115_9 : Cond.fieldLink RX5 115 "KeyOnStreet$House" (TX9 1).2.1 (TX9 1).2.2.1 ∈ wsX5_rankBy := by decide +kernel
  have hf115_3 : Cond.fieldLink RX5 115 "KeyOnStreet$House" (TX3 1).2.1 (TX3 1).2.2.1 ∈ wsX5_rankBy := by decide +kernel
  refine q_iload_n F 1 dX5_rankBy_0 rfl ?_
  rcases (show lw = 0 ∨ lw = 1 ∨ lw = 2 by omega) with rfl | rfl | rfl
  · skip
    refine q_lookup F (off := 27) (tgt := 28) dX5_rankBy_1 (by decide) (by decide) (by decide) ?_
    refine q_aload_n F 0 dX5_rankBy_28 rfl ?_
    refine q_get F (ci := 5) (j := 2) (hN _ (List.mem_of_getElem? (i := 0) rfl)) rfl hi5 (by decide) hf18_5 rfl rfl dX5_rankBy_29 ?_
    refine q_iload_n F 2 dX5_rankBy_32 rfl ?_
    refine q_iald F (hN _ (List.mem_of_getElem? (i := 1) rfl)) h rfl (by omega) (by decide) dX5_rankBy_33 ?_
    refine q_iret F hr_ dX5_rankBy_34 (hp_ _ _ ⟨congrArg (fun z => some (Value.int z)) ?_, ?_⟩)
    · rfl
    · rfl
  · skip
    refine q_lookup F (off := 34) (tgt := 35) dX5_rankBy_1 (by decide) (by decide) (by decide) ?_
    refine q_aload_n F 0 dX5_rankBy_35 rfl ?_
    refine q_get F (ci := 5) (j := 1) (hN _ (List.mem_of_getElem? (i := 0) rfl)) rfl hi5 (by decide) hf12_5 rfl rfl dX5_rankBy_36 ?_
    refine q_get F (ci := 2) (j := 0) (hK _ (List.mem_of_getElem? (i := 0) rfl)) rfl hi2 (by decide) hf101_2 rfl rfl dX5_rankBy_39 ?_
    refine q_aload_n F 0 dX5_rankBy_42 rfl ?_
    refine q_get F (ci := 5) (j := 0) (hN _ (List.mem_of_getElem? (i := 0) rfl)) rfl hi5 (by decide) hf41_5 rfl rfl dX5_rankBy_43 ?_
    refine q_iload_n F 2 dX5_rankBy_46 rfl ?_
    refine q_callV F (ci := 8) (As := [.int (nI h)]) (rest := [.int kp]) (hT _ (List.mem_of_getElem? (i := 0) rfl)) rfl (c_X8_at l E t T ws hT h (by omega) hn) (List.Perm.refl _) gX5_rankBy_X8_at rfl rfl rfl hd_X8_at ⟨by decide, by decide⟩ rfl (Nat.le_of_ble_eq_true rfl) dX5_rankBy_47 ⟨by decide, by decide⟩ (fun v_ w_ hvw => ?_)
    rw [hvw.1, hvw.2]
    clear hvw
    refine q_at (pc' := 50) (st' := [.ref (tA T h), .int kp]) (ws' := ws) (k' := 0) (n' := 0) rfl rfl rfl rfl rfl ?_
    obtain ⟨hk5_0, hm5_0⟩ := hH h (by omega)
    rcases (show tK T h = 0 ∨ tK T h = 1 ∨ tK T h = 2 ∨ tK T h = 3 ∨ tK T h = 4 by omega) with ek | ek | ek | ek | ek
    · skip
      rw [ek] at hm5_0
      have hm6 : (tA T h, (.inr (0, [.int (tP T h), .int (tL T h), .int (tE T h)]) : va_E)) ∈ ws := hm5_0
      refine q_get F (ci := 0) (j := 0) hm6 rfl hi0 (by decide) hf109_0 rfl rfl dX5_rankBy_50 ?_
      refine q_isub F dX5_rankBy_53 ?_
      refine q_mabs F hm110_0 hm110_1 hm110_2 hm110_3 (by decide) (Nat.le_of_ble_eq_true rfl) (by decide) (by decide) dX5_rankBy_54 ?_
      refine q_toi (ab (kp - (tP T h))) rfl ?_
      refine q_iret F hr_ dX5_rankBy_57 (hp_ _ _ ⟨congrArg (fun z => some (Value.int z)) ?_, ?_⟩)
      · rfl
      · rfl
    · skip
      rw [ek] at hm5_0
      have hm6 : (tA T h, (.inr (4, [.int (tP T h), .int (tL T h), .int (tE T h)]) : va_E)) ∈ ws := hm5_0
      refine q_get F (ci := 4) (j := 0) hm6 rfl hi4 (by decide) hf109_4 rfl rfl dX5_rankBy_50 ?_
      refine q_isub F dX5_rankBy_53 ?_
      refine q_mabs F hm110_0 hm110_1 hm110_2 hm110_3 (by decide) (Nat.le_of_ble_eq_true rfl) (by decide) (by decide) dX5_rankBy_54 ?_
      refine q_toi (ab (kp - (tP T h))) rfl ?_
      refine q_iret F hr_ dX5_rankBy_57 (hp_ _ _ ⟨congrArg (fun z => some (Value.int z)) ?_, ?_⟩)
      · rfl
      · rfl
    · skip
      rw [ek] at hm5_0
      have hm6 : (tA T h, (.inr (1, [.int (tP T h), .int (tL T h), .int (tE T h)]) : va_E)) ∈ ws := hm5_0
      refine q_get F (ci := 1) (j := 0) hm6 rfl hi1 (by decide) hf109_1 rfl rfl dX5_rankBy_50 ?_
      refine q_isub F dX5_rankBy_53 ?_
      refine q_mabs F hm110_0 hm110_1 hm110_2 hm110_3 (by decide) (Nat.le_of_ble_eq_true rfl) (by decide) (by decide) dX5_rankBy_54 ?_
      refine q_toi (ab (kp - (tP T h))) rfl ?_
      refine q_iret F hr_ dX5_rankBy_57 (hp_ _ _ ⟨congrArg (fun z => some (Value.int z)) ?_, ?_⟩)
      · rfl
      · rfl
    · skip
      rw [ek] at hm5_0
      have hm6 : (tA T h, (.inr (9, [.int (tP T h), .int (tL T h), .int (tE T h)]) : va_E)) ∈ ws := hm5_0
      refine q_get F (ci := 9) (j := 0) hm6 rfl hi9 (by decide) hf109_9 rfl rfl dX5_rankBy_50 ?_
      refine q_isub F dX5_rankBy_53 ?_
      refine q_mabs F hm110_0 hm110_1 hm110_2 hm110_3 (by decide) (Nat.le_of_ble_eq_true rfl) (by decide) (by decide) dX5_rankBy_54 ?_
      refine q_toi (ab (kp - (tP T h))) rfl ?_
      refine q_iret F hr_ dX5_rankBy_57 (hp_ _ _ ⟨congrArg (fun z => some (Value.int z)) ?_, ?_⟩)
      · rfl
      · rfl
    · skip
      rw [ek] at hm5_0
      have hm6 : (tA T h, (.inr (3, [.int (tP T h), .int (tL T h), .int (tE T h)]) : va_E)) ∈ ws := hm5_0
      refine q_get F (ci := 3) (j := 0) hm6 rfl hi3 (by decide) hf109_3 rfl rfl dX5_rankBy_50 ?_
      refine q_isub F dX5_rankBy_53 ?_
      refine q_mabs F hm110_0 hm110_1 hm110_2 hm110_3 (by decide) (Nat.le_of_ble_eq_true rfl) (by decide) (by decide) dX5_rankBy_54 ?_
      refine q_toi (ab (kp - (tP T h))) rfl ?_
      refine q_iret F hr_ dX5_rankBy_57 (hp_ _ _ ⟨congrArg (fun z => some (Value.int z)) ?_, ?_⟩)
      · rfl
      · rfl
  · skip
    refine q_lookup F (off := 57) (tgt := 58) dX5_rankBy_1 (by decide) (by decide) (by decide) ?_
    refine q_aload_n F 0 dX5_rankBy_58 rfl ?_
    refine q_get F (ci := 5) (j := 0) (hN _ (List.mem_of_getElem? (i := 0) rfl)) rfl hi5 (by decide) hf41_5 rfl rfl dX5_rankBy_59 ?_
    refine q_iload_n F 2 dX5_rankBy_62 rfl ?_
    refine q_callV F (ci := 8) (As := [.int (nI h)]) (rest := []) (hT _ (List.mem_of_getElem? (i := 0) rfl)) rfl (c_X8_at l E t T ws hT h (by omega) hn) (List.Perm.refl _) gX5_rankBy_X8_at rfl rfl rfl hd_X8_at ⟨by decide, by decide⟩ rfl (Nat.le_of_ble_eq_true rfl) dX5_rankBy_63 ⟨by decide, by decide⟩ (fun v_ w_ hvw => ?_)
    rw [hvw.1, hvw.2]
    clear hvw
    refine q_at (pc' := 66) (st' := [.ref (tA T h)]) (ws' := ws) (k' := 0) (n' := 0) rfl rfl rfl rfl rfl ?_
    obtain ⟨hk5_1, hm5_1⟩ := hH h (by omega)
    rcases (show tK T h = 0 ∨ tK T h = 1 ∨ tK T h = 2 ∨ tK T h = 3 ∨ tK T h = 4 by omega) with ek | ek | ek | ek | ek
    · skip
      rw [ek] at hm5_1
      have hm6 : (tA T h, (.inr (0, [.int (tP T h), .int (tL T h), .int (tE T h)]) : va_E)) ∈ ws := hm5_1
      refine q_get F (ci := 0) (j := 1) hm6 rfl hi0 (by decide) hf115_0 rfl rfl dX5_rankBy_66 ?_
      refine q_iret F hr_ dX5_rankBy_69 (hp_ _ _ ⟨congrArg (fun z => some (Value.int z)) ?_, ?_⟩)
      · rfl
      · rfl
    · skip
      rw [ek] at hm5_1
      have hm6 : (tA T h, (.inr (4, [.int (tP T h), .int (tL T h), .int (tE T h)]) : va_E)) ∈ ws := hm5_1
      refine q_get F (ci := 4) (j := 1) hm6 rfl hi4 (by decide) hf115_4 rfl rfl dX5_rankBy_66 ?_
      refine q_iret F hr_ dX5_rankBy_69 (hp_ _ _ ⟨congrArg (fun z => some (Value.int z)) ?_, ?_⟩)
      · rfl
      · rfl
    · skip
      rw [ek] at hm5_1
      have hm6 : (tA T h, (.inr (1, [.int (tP T h), .int (tL T h), .int (tE T h)]) : va_E)) ∈ ws := hm5_1
      refine q_get F (ci := 1) (j := 1) hm6 rfl hi1 (by decide) hf115_1 rfl rfl dX5_rankBy_66 ?_
      refine q_iret F hr_ dX5_rankBy_69 (hp_ _ _ ⟨congrArg (fun z => some (Value.int z)) ?_, ?_⟩)
      · rfl
      · rfl
    · skip
      rw [ek] at hm5_1
      have hm6 : (tA T h, (.inr (9, [.int (tP T h), .int (tL T h), .int (tE T h)]) : va_E)) ∈ ws := hm5_1
      refine q_get F (ci := 9) (j := 1) hm6 rfl hi9 (by decide) hf115_9 rfl rfl dX5_rankBy_66 ?_
      refine q_iret F hr_ dX5_rankBy_69 (hp_ _ _ ⟨congrArg (fun z => some (Value.int z)) ?_, ?_⟩)
      · rfl
      · rfl
    · skip
      rw [ek] at hm5_1
      have hm6 : (tA T h, (.inr (3, [.int (tP T h), .int (tL T h), .int (tE T h)]) : va_E)) ∈ ws := hm5_1
      refine q_get F (ci := 3) (j := 1) hm6 rfl hi3 (by decide) hf115_3 rfl rfl dX5_rankBy_66 ?_
      refine q_iret F hr_ dX5_rankBy_69 (hp_ _ _ ⟨congrArg (fun z => some (Value.int z)) ?_, ?_⟩)
      · rfl
      · rfl

set_option maxHeartbeats 4000000 in
set_option maxRecDepth 100000 in
theorem c_X5_nextBy (l : Launch) (E : gEnv) (a t : Nat → Nat) (T : gTown) (sn : Int32) (B : Nat → Nat → Int32) (kp km ku : Int32) (ws : va_W) (hN : isIn (nC E a (t 0) sn B) ws) (hK : isIn (kC (a 1) kp km ku) ws) (hT : isIn (tC E t T) ws) (hH : isHs T ws) (hn : tN T ≤ 6) (lw : Nat) (hl3 : lw < 3) : Cn l E yX5_nextBy wsX5_nextBy (rmL 2 0 0) [.ref (a 0), .int (nI lw)] (ws) 0 0 (fun v w => v = some (.int (nxB T lw (B 2) kp)) ∧ w = ws) := by
  refine Cn.of (own := RX5) (cc := cX5_nextBy) (maxL := 7) (ret := (some .int)) (lv := [(0, .ref (a 0)), (1, .int (nI lw))]) (by decide) rfl rfl (Nat.le_of_ble_eq_true rfl) rfl ?_
  intro p_ e_ s_ m_ args_ below_ meth_ c_ A_ P_ hp_ F hr_ hnm_
  have hf41_5 : Cond.fieldLink RX5 41 "KeyOnStreet$Night" (TX5 0).2.1 (TX5 0).2.2.1 ∈ wsX5_nextBy := by decide +kernel
  have hi5 : ∀ w ∈ u_ws RX5 TX5 10, w ∈ wsX5_nextBy := by decide +kernel
  have hd_X5_waiting : yX5_waiting.cls = RX5 ∧ yX5_waiting.cls ≠ "java/lang/invoke/MethodHandle" ∧ yX5_waiting.cls ≠ "java/lang/invoke/VarHandle" ∧ (parseMethodDescriptor yX5_waiting.desc).map (fun d => d.parameters.length) = some 0 := by decide +kernel
  have hd_X8_mayBeOpened : yX8_mayBeOpened.cls = RX8 ∧ yX8_mayBeOpened.cls ≠ "java/lang/invoke/MethodHandle" ∧ yX8_mayBeOpened.cls ≠ "java/lang/invoke/VarHandle" ∧ (parseMethodDescriptor yX8_mayBeOpened.desc).map (fun d => d.parameters.length) = some 1 := by decide +kernel
  have hk104 : Cond.constant RX5 104 (nI 2147483647) ∈ wsX5_nextBy := by decide +kernel
  have hf95_8 : Cond.fieldLink RX5 95 "KeyOnStreet$Town" (TX8 2).2.1 (TX8 2).2.2.1 ∈ wsX5_nextBy := by decide +kernel
  have hi8 : ∀ w ∈ u_ws RX8 TX8 4, w ∈ wsX5_nextBy := by decide +kernel
  have hd_X5_rankBy : yX5_rankBy.cls = RX5 ∧ yX5_rankBy.cls ≠ "java/lang/invoke/MethodHandle" ∧ yX5_rankBy.cls ≠ "java/lang/invoke/VarHandle" ∧ (parseMethodDescriptor yX5_rankBy.desc).map (fun d => d.parameters.length) = some 2 := by decide +kernel
  refine q_aload_n F 0 dX5_nextBy_0 rfl ?_
  refine q_get F (ci := 5) (j := 0) (hN _ (List.mem_of_getElem? (i := 0) rfl)) rfl hi5 (by decide) hf41_5 rfl rfl dX5_nextBy_1 ?_
  refine q_aload_n F 0 dX5_nextBy_4 rfl ?_
  refine q_callV F (ci := 5) (As := []) (rest := [.ref (t 0)]) (hN _ (List.mem_of_getElem? (i := 0) rfl)) rfl (c_X5_waiting l E a t T sn B kp km ku ws hN hK hT hH hn ) (List.Perm.refl _) gX5_nextBy_X5_waiting rfl rfl rfl hd_X5_waiting ⟨by decide, by decide⟩ rfl (Nat.le_of_ble_eq_true rfl) dX5_nextBy_5 ⟨by decide, by decide⟩ (fun v_ w_ hvw => ?_)
  rw [hvw.1, hvw.2]
  clear hvw
  refine q_at (pc' := 8) (st' := [.int (wtB (B 2) 6), .ref (t 0)]) (ws' := ws) (k' := 0) (n' := 0) rfl rfl rfl rfl rfl ?_
  refine q_callV F (ci := 8) (As := [.int (wtB (B 2) 6)]) (rest := []) (hT _ (List.mem_of_getElem? (i := 0) rfl)) rfl (c_X8_mayBeOpened l E t T ws hT (wtB (B 2) 6)) (List.Perm.refl _) gX5_nextBy_X8_mayBeOpened rfl rfl rfl hd_X8_mayBeOpened ⟨by decide, by decide⟩ rfl (Nat.le_of_ble_eq_true rfl) dX5_nextBy_8 ⟨by decide, by decide⟩ (fun v_ w_ hvw => ?_)
  rw [hvw.1, hvw.2]
  clear hvw
  refine q_at (pc' := 11) (st' := [.int (mayB (mwB T 6) (wtB (B 2) 6))]) (ws' := ws) (k' := 0) (n' := 0) rfl rfl rfl rfl rfl ?_
  refine q_istore_n F (lv' := [(2, .int (mayB (mwB T 6) (wtB (B 2) 6))), (0, .ref (a 0)), (1, .int (nI lw))]) dX5_nextBy_11 (by decide) rfl ?_
  refine q_iconst F dX5_nextBy_12 (v := (-1)) (by decide) ?_
  refine q_istore_n F (lv' := [(3, .int (-1)), (2, .int (mayB (mwB T 6) (wtB (B 2) 6))), (0, .ref (a 0)), (1, .int (nI lw))]) dX5_nextBy_13 (by decide) rfl ?_
  refine q_ldc F hk104 dX5_nextBy_14 ?_
  refine q_istore F (lv' := [(4, .int (nI 2147483647)), (3, .int (-1)), (2, .int (mayB (mwB T 6) (wtB (B 2) 6))), (0, .ref (a 0)), (1, .int (nI lw))]) dX5_nextBy_16 (by decide) rfl ?_
  refine q_iconst F dX5_nextBy_18 (v := nI 0) (by decide) ?_
  refine q_istore F (lv' := [(5, .int (nI 0)), (4, .int (nI 2147483647)), (3, .int (-1)), (2, .int (mayB (mwB T 6) (wtB (B 2) 6))), (0, .ref (a 0)), (1, .int (nI lw))]) dX5_nextBy_19 (by decide) rfl ?_
  have lb21 : ∀ (fu : Nat) (i : Nat) (hi : i ≤ tN T), tN T - i < fu → gW p_ l e_ (rmL 2 0 0) s_ m_ args_ below_ meth_ c_ E A_ 7 (MQ below_ (gQ E A_ P_) args_ s_ 0 0 A_) 21 [(0, .ref (a 0)), (1, .int (nI lw)), (2, .int (mayB (mwB T 6) (wtB (B 2) 6))), (3, .int ((nxL (mayB (mwB T 6) (wtB (B 2) 6)) (rkF T lw (B 2) kp) i).1)), (4, .int ((nxL (mayB (mwB T 6) (wtB (B 2) 6)) (rkF T lw (B 2) kp) i).2)), (5, .int (nI i))] [] (ws) 0 0 := by
    intro fu_21
    induction fu_21 with
    | zero => intro i hi hfu; exact absurd hfu (Nat.not_lt_zero _)
    | succ fu_21 ih_21 =>
      intro i hi hfu_21
      refine q_iload F 5 dX5_nextBy_21 rfl ?_
      refine q_aload_n F 0 dX5_nextBy_23 rfl ?_
      refine q_get F (ci := 5) (j := 0) (hN _ (List.mem_of_getElem? (i := 0) rfl)) rfl hi5 (by decide) hf41_5 rfl rfl dX5_nextBy_24 ?_
      refine q_get F (ci := 8) (j := 2) (hT _ (List.mem_of_getElem? (i := 0) rfl)) rfl hi8 (by decide) hf95_8 rfl rfl dX5_nextBy_27 ?_
      refine q_icmp_ge F (tgt := 72) dX5_nextBy_30 (by decide) (fun h_30 => ?_) (fun h_30 => ?_)
      · skip
        have hn_30 : i ≥ (tN T) := nf_ge_t (by omega) (by omega) h_30
        refine q_iload_n F 3 dX5_nextBy_72 rfl ?_
        refine q_iret F hr_ dX5_nextBy_73 (hp_ _ _ ⟨congrArg (fun z => some (Value.int z)) ?_, ?_⟩)
        · (have e6 : i = tN T := by omega); rw [e6]; rfl
        · rfl
      · skip
        have hn_30 : i < (tN T) := nf_ge_f (by omega) (by omega) h_30
        refine q_aload_n F 0 dX5_nextBy_33 rfl ?_
        refine q_iload_n F 1 dX5_nextBy_34 rfl ?_
        refine q_iload F 5 dX5_nextBy_35 rfl ?_
        refine q_callV F (ci := 5) (As := [.int (nI lw), .int (nI i)]) (rest := []) (hN _ (List.mem_of_getElem? (i := 0) rfl)) rfl (c_X5_rankBy l E a t T sn B kp km ku ws hN hK hT hH hn lw i hl3 (by omega)) (List.Perm.refl _) gX5_nextBy_X5_rankBy rfl rfl rfl hd_X5_rankBy ⟨by decide, by decide⟩ rfl (Nat.le_of_ble_eq_true rfl) dX5_nextBy_37 ⟨by decide, by decide⟩ (fun v_ w_ hvw => ?_)
        rw [hvw.1, hvw.2]
        clear hvw
        refine q_at (pc' := 40) (st' := [.int (rkF T lw (B 2) kp i)]) (ws' := ws) (k' := 0) (n' := 0) rfl rfl rfl rfl rfl ?_
        refine q_istore F (lv' := [(6, .int (rkF T lw (B 2) kp i)), (0, .ref (a 0)), (1, .int (nI lw)), (2, .int (mayB (mwB T 6) (wtB (B 2) 6))), (3, .int ((nxL (mayB (mwB T 6) (wtB (B 2) 6)) (rkF T lw (B 2) kp) i).1)), (4, .int ((nxL (mayB (mwB T 6) (wtB (B 2) 6)) (rkF T lw (B 2) kp) i).2)), (5, .int (nI i))]) dX5_nextBy_40 (by decide) rfl ?_
        refine q_iload_n F 3 dX5_nextBy_42 rfl ?_
        refine q_iload F 6 dX5_nextBy_43 rfl ?_
        refine q_ishr F dX5_nextBy_45 ?_
        refine q_iconst F dX5_nextBy_46 (v := nI 1) (by decide) ?_
        refine q_iand F dX5_nextBy_47 ?_
        refine q_iconst F dX5_nextBy_48 (v := nI 1) (by decide) ?_
        refine q_icmp_ne F (tgt := 66) dX5_nextBy_49 (by decide) (fun h_49 => ?_) (fun h_49 => ?_)
        · skip
          refine q_iinc F 6 (v := nI (i + 1)) (lv' := [(5, .int (nI (i + 1))), (6, .int (rkF T lw (B 2) kp i)), (0, .ref (a 0)), (1, .int (nI lw)), (2, .int (mayB (mwB T 6) (wtB (B 2) 6))), (3, .int ((nxL (mayB (mwB T 6) (wtB (B 2) 6)) (rkF T lw (B 2) kp) i).1)), (4, .int ((nxL (mayB (mwB T 6) (wtB (B 2) 6)) (rkF T lw (B 2) kp) i).2))]) dX5_nextBy_66 rfl (nI_1 _) (by decide) rfl ?_
          refine q_goto F (tgt := 21) dX5_nextBy_69 (by decide) ?_
          refine q_lv [2, 3, 4, 5, 6, 0] (lv' := [(0, .ref (a 0)), (1, .int (nI lw)), (2, .int (mayB (mwB T 6) (wtB (B 2) 6))), (3, .int ((nxL (mayB (mwB T 6) (wtB (B 2) 6)) (rkF T lw (B 2) kp) i).1)), (4, .int ((nxL (mayB (mwB T 6) (wtB (B 2) 6)) (rkF T lw (B 2) kp) i).2)), (5, .int (nI (i + 1)))]) rfl ?_
          refine q_to (lv' := [(0, .ref (a 0)), (1, .int (nI lw)), (2, .int (mayB (mwB T 6) (wtB (B 2) 6))), (3, .int ((nxL (mayB (mwB T 6) (wtB (B 2) 6)) (rkF T lw (B 2) kp) (i + 1)).1)), (4, .int ((nxL (mayB (mwB T 6) (wtB (B 2) 6)) (rkF T lw (B 2) kp) (i + 1)).2)), (5, .int (nI (i + 1)))]) (st' := []) (ws' := ws) (cE (vE (rfl)) (cE (vE (rfl)) (cE (vE (rfl)) (cE (vE (congrArg Value.int (by first | rfl | simp [nxL, *]))) (cE (vE (congrArg Value.int (by first | rfl | simp [nxL, *]))) (cE (vE (rfl)) rfl)))))) rfl rfl ?_
          exact ih_21 (i + 1) (by omega) (by omega)
        · skip
          refine q_iload F 0 dX5_nextBy_52 rfl ?_
          refine q_iload F 5 dX5_nextBy_54 rfl ?_
          refine q_icmp_ge F (tgt := 66) dX5_nextBy_56 (by decide) (fun h_56 => ?_) (fun h_56 => ?_)
          · skip
            have hz_56 := Int32.not_lt.mpr h_56
            refine q_iinc F 6 (v := nI (i + 1)) (lv' := [(5, .int (nI (i + 1))), (6, .int (rkF T lw (B 2) kp i)), (0, .ref (a 0)), (1, .int (nI lw)), (2, .int (mayB (mwB T 6) (wtB (B 2) 6))), (3, .int ((nxL (mayB (mwB T 6) (wtB (B 2) 6)) (rkF T lw (B 2) kp) i).1)), (4, .int ((nxL (mayB (mwB T 6) (wtB (B 2) 6)) (rkF T lw (B 2) kp) i).2))]) dX5_nextBy_66 rfl (nI_1 _) (by decide) rfl ?_
            refine q_goto F (tgt := 21) dX5_nextBy_69 (by decide) ?_
            refine q_lv [2, 3, 4, 5, 6, 0] (lv' := [(0, .ref (a 0)), (1, .int (nI lw)), (2, .int (mayB (mwB T 6) (wtB (B 2) 6))), (3, .int ((nxL (mayB (mwB T 6) (wtB (B 2) 6)) (rkF T lw (B 2) kp) i).1)), (4, .int ((nxL (mayB (mwB T 6) (wtB (B 2) 6)) (rkF T lw (B 2) kp) i).2)), (5, .int (nI (i + 1)))]) rfl ?_
            refine q_to (lv' := [(0, .ref (a 0)), (1, .int (nI lw)), (2, .int (mayB (mwB T 6) (wtB (B 2) 6))), (3, .int ((nxL (mayB (mwB T 6) (wtB (B 2) 6)) (rkF T lw (B 2) kp) (i + 1)).1)), (4, .int ((nxL (mayB (mwB T 6) (wtB (B 2) 6)) (rkF T lw (B 2) kp) (i + 1)).2)), (5, .int (nI (i + 1)))]) (st' := []) (ws' := ws) (cE (vE (rfl)) (cE (vE (rfl)) (cE (vE (rfl)) (cE (vE (congrArg Value.int (by first | rfl | simp [nxL, *]))) (cE (vE (congrArg Value.int (by first | rfl | simp [nxL, *]))) (cE (vE (rfl)) rfl)))))) rfl rfl ?_
            exact ih_21 (i + 1) (by omega) (by omega)
          · skip
            have hz_56 := Int32.not_le.mp h_56
            refine q_iload F 0 dX5_nextBy_59 rfl ?_
            refine q_istore F (lv' := [(4, .int (rkF T lw (B 2) kp i)), (6, .int (rkF T lw (B 2) kp i)), (0, .ref (a 0)), (1, .int (nI lw)), (2, .int (mayB (mwB T 6) (wtB (B 2) 6))), (3, .int ((nxL (mayB (mwB T 6) (wtB (B 2) 6)) (rkF T lw (B 2) kp) i).1)), (5, .int (nI i))]) dX5_nextBy_61 (by decide) rfl ?_
            refine q_iload F 6 dX5_nextBy_63 rfl ?_
            refine q_istore_n F (lv' := [(3, .int (nI i)), (4, .int (rkF T lw (B 2) kp i)), (6, .int (rkF T lw (B 2) kp i)), (0, .ref (a 0)), (1, .int (nI lw)), (2, .int (mayB (mwB T 6) (wtB (B 2) 6))), (5, .int (nI i))]) dX5_nextBy_65 (by decide) rfl ?_
            refine q_iinc F 6 (v := nI (i + 1)) (lv' := [(5, .int (nI (i + 1))), (3, .int (nI i)), (4, .int (rkF T lw (B 2) kp i)), (6, .int (rkF T lw (B 2) kp i)), (0, .ref (a 0)), (1, .int (nI lw)), (2, .int (mayB (mwB T 6) (wtB (B 2) 6)))]) dX5_nextBy_66 rfl (nI_1 _) (by decide) rfl ?_
            refine q_goto F (tgt := 21) dX5_nextBy_69 (by decide) ?_
            refine q_lv [4, 5, 6, 1, 2, 0] (lv' := [(0, .ref (a 0)), (1, .int (nI lw)), (2, .int (mayB (mwB T 6) (wtB (B 2) 6))), (3, .int (nI i)), (4, .int (rkF T lw (B 2) kp i)), (5, .int (nI (i + 1)))]) rfl ?_
            refine q_to (lv' := [(0, .ref (a 0)), (1, .int (nI lw)), (2, .int (mayB (mwB T 6) (wtB (B 2) 6))), (3, .int ((nxL (mayB (mwB T 6) (wtB (B 2) 6)) (rkF T lw (B 2) kp) (i + 1)).1)), (4, .int ((nxL (mayB (mwB T 6) (wtB (B 2) 6)) (rkF T lw (B 2) kp) (i + 1)).2)), (5, .int (nI (i + 1)))]) (st' := []) (ws' := ws) (cE (vE (rfl)) (cE (vE (rfl)) (cE (vE (rfl)) (cE (vE (congrArg Value.int (by first | rfl | simp [nxL, *]))) (cE (vE (congrArg Value.int (by first | rfl | simp [nxL, *]))) (cE (vE (rfl)) rfl)))))) rfl rfl ?_
            exact ih_21 (i + 1) (by omega) (by omega)
  refine q_lv [4, 5, 3, 2, 1, 0] (lv' := [(0, .ref (a 0)), (1, .int (nI lw)), (2, .int (mayB (mwB T 6) (wtB (B 2) 6))), (3, .int (-1)), (4, .int (nI 2147483647)), (5, .int (nI 0))]) rfl ?_
  refine q_to (lv' := [(0, .ref (a 0)), (1, .int (nI lw)), (2, .int (mayB (mwB T 6) (wtB (B 2) 6))), (3, .int ((nxL (mayB (mwB T 6) (wtB (B 2) 6)) (rkF T lw (B 2) kp) 0).1)), (4, .int ((nxL (mayB (mwB T 6) (wtB (B 2) 6)) (rkF T lw (B 2) kp) 0).2)), (5, .int (nI 0))]) (st' := []) (ws' := ws) (cE (vE (rfl)) (cE (vE (rfl)) (cE (vE (rfl)) (cE (vE (congrArg Value.int (by first | rfl | simp [nxL, *]))) (cE (vE (congrArg Value.int (by first | rfl | simp [nxL, *]))) (cE (vE (rfl)) rfl)))))) rfl rfl ?_
  exact lb21 (tN T - 0 + 1) 0 (by omega) (Nat.lt_succ_self _)

set_option maxHeartbeats 4000000 in
set_option maxRecDepth 100000 in
theorem c_X5_mayOpen (l : Launch) (E : gEnv) (a t : Nat → Nat) (T : gTown) (sn : Int32) (B : Nat → Nat → Int32) (kp km ku : Int32) (ws : va_W) (hN : isIn (nC E a (t 0) sn B) ws) (hK : isIn (kC (a 1) kp km ku) ws) (hT : isIn (tC E t T) ws) (hH : isHs T ws) (hn : tN T ≤ 6) (h : Nat) (hh : h < tN T) : Cn l E yX5_mayOpen wsX5_mayOpen (rmL 2 0 0) [.ref (a 0), .int (nI h)] (ws) 0 0 (fun v w => v = some (.int (bI (outB (B 2) h && bitB (mayB (mwB T 6) (wtB (B 2) 6)) h))) ∧ w = ws) := by
  refine Cn.of (own := RX5) (cc := cX5_mayOpen) (maxL := 2) (ret := (some .boolean)) (lv := [(0, .ref (a 0)), (1, .int (nI h))]) (by decide) rfl rfl (Nat.le_of_ble_eq_true rfl) rfl ?_
  intro p_ e_ s_ m_ args_ below_ meth_ c_ A_ P_ hp_ F hr_ hnm_
  have hd_X5_isOut : yX5_isOut.cls = RX5 ∧ yX5_isOut.cls ≠ "java/lang/invoke/MethodHandle" ∧ yX5_isOut.cls ≠ "java/lang/invoke/VarHandle" ∧ (parseMethodDescriptor yX5_isOut.desc).map (fun d => d.parameters.length) = some 1 := by decide +kernel
  have hf41_5 : Cond.fieldLink RX5 41 "KeyOnStreet$Night" (TX5 0).2.1 (TX5 0).2.2.1 ∈ wsX5_mayOpen := by decide +kernel
  have hi5 : ∀ w ∈ u_ws RX5 TX5 10, w ∈ wsX5_mayOpen := by decide +kernel
  have hd_X5_waiting : yX5_waiting.cls = RX5 ∧ yX5_waiting.cls ≠ "java/lang/invoke/MethodHandle" ∧ yX5_waiting.cls ≠ "java/lang/invoke/VarHandle" ∧ (parseMethodDescriptor yX5_waiting.desc).map (fun d => d.parameters.length) = some 0 := by decide +kernel
  have hd_X8_mayBeOpened : yX8_mayBeOpened.cls = RX8 ∧ yX8_mayBeOpened.cls ≠ "java/lang/invoke/MethodHandle" ∧ yX8_mayBeOpened.cls ≠ "java/lang/invoke/VarHandle" ∧ (parseMethodDescriptor yX8_mayBeOpened.desc).map (fun d => d.parameters.length) = some 1 := by decide +kernel
  refine q_aload_n F 0 dX5_mayOpen_0 rfl ?_
  refine q_iload_n F 1 dX5_mayOpen_1 rfl ?_
  refine q_callV F (ci := 5) (As := [.int (nI h)]) (rest := []) (hN _ (List.mem_of_getElem? (i := 0) rfl)) rfl (c_X5_isOut l E a t T sn B kp km ku ws hN hK hT hH hn h (by omega)) (List.Perm.refl _) gX5_mayOpen_X5_isOut rfl rfl rfl hd_X5_isOut ⟨by decide, by decide⟩ rfl (Nat.le_of_ble_eq_true rfl) dX5_mayOpen_2 ⟨by decide, by decide⟩ (fun v_ w_ hvw => ?_)
  rw [hvw.1, hvw.2]
  clear hvw
  refine q_at (pc' := 5) (st' := [.int (bI (outB (B 2) h))]) (ws' := ws) (k' := 0) (n' := 0) rfl rfl rfl rfl rfl ?_
  refine q_if_eq F (tgt := 31) dX5_mayOpen_5 (by decide) (fun h_5 => ?_) (fun h_5 => ?_)
  · skip
    have hb_5 := bI_0 h_5
    refine q_iconst F dX5_mayOpen_31 (v := nI 0) (by decide) ?_
    refine q_zret F hr_ (by decide) dX5_mayOpen_32 (hp_ _ _ ⟨congrArg (fun z => some (Value.int z)) ?_, ?_⟩)
    · simp [bitB, bI, *]
    · rfl
  · skip
    have hb_5 := bI_1 h_5
    refine q_aload_n F 0 dX5_mayOpen_8 rfl ?_
    refine q_get F (ci := 5) (j := 0) (hN _ (List.mem_of_getElem? (i := 0) rfl)) rfl hi5 (by decide) hf41_5 rfl rfl dX5_mayOpen_9 ?_
    refine q_aload_n F 0 dX5_mayOpen_12 rfl ?_
    refine q_callV F (ci := 5) (As := []) (rest := [.ref (t 0)]) (hN _ (List.mem_of_getElem? (i := 0) rfl)) rfl (c_X5_waiting l E a t T sn B kp km ku ws hN hK hT hH hn ) (List.Perm.refl _) gX5_mayOpen_X5_waiting rfl rfl rfl hd_X5_waiting ⟨by decide, by decide⟩ rfl (Nat.le_of_ble_eq_true rfl) dX5_mayOpen_13 ⟨by decide, by decide⟩ (fun v_ w_ hvw => ?_)
    rw [hvw.1, hvw.2]
    clear hvw
    refine q_at (pc' := 16) (st' := [.int (wtB (B 2) 6), .ref (t 0)]) (ws' := ws) (k' := 0) (n' := 0) rfl rfl rfl rfl rfl ?_
    refine q_callV F (ci := 8) (As := [.int (wtB (B 2) 6)]) (rest := []) (hT _ (List.mem_of_getElem? (i := 0) rfl)) rfl (c_X8_mayBeOpened l E t T ws hT (wtB (B 2) 6)) (List.Perm.refl _) gX5_mayOpen_X8_mayBeOpened rfl rfl rfl hd_X8_mayBeOpened ⟨by decide, by decide⟩ rfl (Nat.le_of_ble_eq_true rfl) dX5_mayOpen_16 ⟨by decide, by decide⟩ (fun v_ w_ hvw => ?_)
    rw [hvw.1, hvw.2]
    clear hvw
    refine q_at (pc' := 19) (st' := [.int (mayB (mwB T 6) (wtB (B 2) 6))]) (ws' := ws) (k' := 0) (n' := 0) rfl rfl rfl rfl rfl ?_
    refine q_iload_n F 1 dX5_mayOpen_19 rfl ?_
    refine q_ishr F dX5_mayOpen_20 ?_
    refine q_iconst F dX5_mayOpen_21 (v := nI 1) (by decide) ?_
    refine q_iand F dX5_mayOpen_22 ?_
    refine q_iconst F dX5_mayOpen_23 (v := nI 1) (by decide) ?_
    refine q_icmp_ne F (tgt := 31) dX5_mayOpen_24 (by decide) (fun h_24 => ?_) (fun h_24 => ?_)
    · skip
      refine q_iconst F dX5_mayOpen_31 (v := nI 0) (by decide) ?_
      refine q_zret F hr_ (by decide) dX5_mayOpen_32 (hp_ _ _ ⟨congrArg (fun z => some (Value.int z)) ?_, ?_⟩)
      · simp [bitB, bI, *]
      · rfl
    · skip
      refine q_iconst F dX5_mayOpen_27 (v := nI 1) (by decide) ?_
      refine q_goto F (tgt := 32) dX5_mayOpen_28 (by decide) ?_
      refine q_zret F hr_ (by decide) dX5_mayOpen_32 (hp_ _ _ ⟨congrArg (fun z => some (Value.int z)) ?_, ?_⟩)
      · simp [bitB, bI, *]
      · rfl
