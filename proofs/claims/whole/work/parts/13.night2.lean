set_option maxHeartbeats 4000000 in
set_option maxRecDepth 100000 in
theorem c_X5_letIn (l : Launch) (E : gEnv) (a t : Nat → Nat) (T : gTown) (sn : Int32) (B : Nat → Nat → Int32) (kp km ku : Int32) (tl : va_W) (hT : isIn (tC E t T) tl) (hH : isHs T tl) (hn : tN T ≤ 6) (h : Nat) (hh : h < tN T) (ho : outB (B 2) h = true) : Cn l E yX5_letIn wsX5_letIn (rmL 3 0 0) [.ref (a 0), .int (nI h)] (nC E a (t 0) sn B ++ (kC (a 1) kp km ku ++ tl)) 0 0 (fun v w => v = none ∧ w = nC E a (t 0) sn (liB T B kp km ku h) ++ (kC (a 1) (tP T h) (brg (tK T h) (tP T h) kp km ku) (kpu (tK T h) (brg (tK T h) (tP T h) kp km ku)) ++ tl)) := by
  refine Cn.of (own := RX5) (cc := cX5_letIn) (maxL := 3) (ret := none) (lv := [(0, .ref (a 0)), (1, .int (nI h))]) (by decide) rfl rfl (Nat.le_of_ble_eq_true rfl) rfl ?_
  intro p_ e_ s_ m_ args_ below_ meth_ c_ A_ P_ hp_ F hr_ hnm_
  have hd_X5_isOut : yX5_isOut.cls = RX5 ∧ yX5_isOut.cls ≠ "java/lang/invoke/MethodHandle" ∧ yX5_isOut.cls ≠ "java/lang/invoke/VarHandle" ∧ (parseMethodDescriptor yX5_isOut.desc).map (fun d => d.parameters.length) = some 1 := by decide +kernel
  have hf41_5 : Cond.fieldLink RX5 41 "KeyOnStreet$Night" (TX5 0).2.1 (TX5 0).2.2.1 ∈ wsX5_letIn := by decide +kernel
  have hi5 : ∀ w ∈ u_ws RX5 TX5 10, w ∈ wsX5_letIn := by decide +kernel
  have hd_X8_at : yX8_at.cls = RX8 ∧ yX8_at.cls ≠ "java/lang/invoke/MethodHandle" ∧ yX8_at.cls ≠ "java/lang/invoke/VarHandle" ∧ (parseMethodDescriptor yX8_at.desc).map (fun d => d.parameters.length) = some 1 := by decide +kernel
  have hf12_5 : Cond.fieldLink RX5 12 "KeyOnStreet$Night" (TX5 1).2.1 (TX5 1).2.2.1 ∈ wsX5_letIn := by decide +kernel
  have hd_X2_bringTo : yX2_bringTo.cls = RX2 ∧ yX2_bringTo.cls ≠ "java/lang/invoke/MethodHandle" ∧ yX2_bringTo.cls ≠ "java/lang/invoke/VarHandle" ∧ (parseMethodDescriptor yX2_bringTo.desc).map (fun d => d.parameters.length) = some 1 := by decide +kernel
  have hf18_5 : Cond.fieldLink RX5 18 "KeyOnStreet$Night" (TX5 2).2.1 (TX5 2).2.2.1 ∈ wsX5_letIn := by decide +kernel
  have hf22_5 : Cond.fieldLink RX5 22 "KeyOnStreet$Night" (TX5 3).2.1 (TX5 3).2.2.1 ∈ wsX5_letIn := by decide +kernel
  have hf87_2 : Cond.fieldLink RX5 87 "KeyOnStreet$Key" (TX2 1).2.1 (TX2 1).2.2.1 ∈ wsX5_letIn := by decide +kernel
  have hi2 : ∀ w ∈ u_ws RX2 TX2 3, w ∈ wsX5_letIn := by decide +kernel
  have hf25_5 : Cond.fieldLink RX5 25 "KeyOnStreet$Night" (TX5 4).2.1 (TX5 4).2.2.1 ∈ wsX5_letIn := by decide +kernel
  have hd_X0_lateAt : yX0_lateAt.cls = RX0 ∧ yX0_lateAt.cls ≠ "java/lang/invoke/MethodHandle" ∧ yX0_lateAt.cls ≠ "java/lang/invoke/VarHandle" ∧ (parseMethodDescriptor yX0_lateAt.desc).map (fun d => d.parameters.length) = some 1 := by decide +kernel
  have hd_X0_lateAt_U : "KeyOnStreet$House" ≠ "java/lang/invoke/MethodHandle" ∧ "KeyOnStreet$House" ≠ "java/lang/invoke/VarHandle" ∧ (parseMethodDescriptor "(I)I").map (fun d => d.parameters.length) = some 1 := by decide +kernel
  have hd_X1_lateAt_O : "KeyOnStreet$House" ≠ "java/lang/invoke/MethodHandle" ∧ "KeyOnStreet$House" ≠ "java/lang/invoke/VarHandle" ∧ (parseMethodDescriptor "(I)I").map (fun d => d.parameters.length) = some 1 := by decide +kernel
  have hc_lateAt : Cond.code ⟨"KeyOnStreet$House", "lateAt", "(I)I"⟩ cX0_lateAt 2 (some .int) ∈ wsX5_letIn := by decide +kernel
  refine q_aload_n F 0 dX5_letIn_0 rfl ?_
  refine q_iload_n F 1 dX5_letIn_1 rfl ?_
  refine q_callV F (ci := 5) (As := [.int (nI h)]) (rest := []) (List.mem_append_left _ (List.mem_of_getElem? (i := 0) rfl)) rfl (c_X5_isOut l E a t T sn B kp km ku (nC E a (t 0) sn B ++ (kC (a 1) kp km ku ++ tl)) (isIn.l _ _) (isIn.r _ (isIn.l _ _)) (isIn.r _ (isIn.r _ hT)) (isHs.r _ (isHs.r _ hH)) hn h (by omega)) (List.Perm.refl _) gX5_letIn_X5_isOut rfl rfl rfl hd_X5_isOut ⟨by decide, by decide⟩ rfl (Nat.le_of_ble_eq_true rfl) dX5_letIn_2 ⟨by decide, by decide⟩ (fun v_ w_ hvw => ?_)
  rw [hvw.1, hvw.2]
  clear hvw
  refine q_at (pc' := 5) (st' := [.int (bI (outB (B 2) h))]) (ws' := nC E a (t 0) sn B ++ (kC (a 1) kp km ku ++ tl)) (k' := 0) (n' := 0) rfl rfl rfl rfl rfl ?_
  refine q_if_ne F (tgt := 9) dX5_letIn_5 (by decide) (fun h_5 => ?_) (fun h_5 => ?_)
  · skip
    have hb_5 := bI_1 h_5
    refine q_aload_n F 0 dX5_letIn_9 rfl ?_
    refine q_get F (ci := 5) (j := 0) (List.mem_append_left _ (List.mem_of_getElem? (i := 0) rfl)) rfl hi5 (by decide) hf41_5 rfl rfl dX5_letIn_10 ?_
    refine q_iload_n F 1 dX5_letIn_13 rfl ?_
    refine q_callV F (ci := 8) (As := [.int (nI h)]) (rest := []) (List.mem_append_right _ (List.mem_append_right _ (hT _ (List.mem_of_getElem? (i := 0) rfl)))) rfl (c_X8_at l E t T (nC E a (t 0) sn B ++ (kC (a 1) kp km ku ++ tl)) (isIn.r _ (isIn.r _ hT)) h (by omega) hn) (List.Perm.refl _) gX5_letIn_X8_at rfl rfl rfl hd_X8_at ⟨by decide, by decide⟩ rfl (Nat.le_of_ble_eq_true rfl) dX5_letIn_14 ⟨by decide, by decide⟩ (fun v_ w_ hvw => ?_)
    rw [hvw.1, hvw.2]
    clear hvw
    refine q_at (pc' := 17) (st' := [.ref (tA T h)]) (ws' := nC E a (t 0) sn B ++ (kC (a 1) kp km ku ++ tl)) (k' := 0) (n' := 0) rfl rfl rfl rfl rfl ?_
    refine q_astore_n F (lv' := [(2, .ref (tA T h)), (0, .ref (a 0)), (1, .int (nI h))]) dX5_letIn_17 (by decide) rfl ?_
    refine q_aload_n F 1 dX5_letIn_18 rfl ?_
    refine q_get F (ci := 5) (j := 1) (List.mem_append_left _ (List.mem_of_getElem? (i := 0) rfl)) rfl hi5 (by decide) hf12_5 rfl rfl dX5_letIn_19 ?_
    refine q_aload_n F 0 dX5_letIn_22 rfl ?_
    refine q_perm pf1 ?_
    refine q_callV F (ci := 2) (As := [.ref (tA T h)]) (rest := []) (List.mem_append_left _ (List.mem_of_getElem? (i := 0) rfl)) rfl (c_X2_bringTo l E (tK T h) (a 1) (tA T h) kp km ku (tP T h) (tL T h) (tE T h) (nC E a (t 0) sn B ++ tl) (hH h (by omega)).1 (((isHs.r _ hH) : isHs T (nC E a (t 0) sn B ++ tl)) h (by omega)).2) (List.Perm.refl _) gX5_letIn_X2_bringTo rfl rfl rfl hd_X2_bringTo ⟨by decide, by decide⟩ rfl (Nat.le_of_ble_eq_true rfl) dX5_letIn_23 ⟨by decide, by decide⟩ (fun v_ w_ hvw => ?_)
    rw [hvw.1, hvw.2]
    clear hvw
    refine q_at (pc' := 26) (st' := []) (ws' := kC (a 1) (tP T h) (brg (tK T h) (tP T h) kp km ku) (kpu (tK T h) (brg (tK T h) (tP T h) kp km ku)) ++ (nC E a (t 0) sn B ++ tl)) (k' := 0) (n' := 0) rfl rfl rfl rfl rfl ?_
    refine q_aload_n F 1 dX5_letIn_26 rfl ?_
    refine q_get F (ci := 5) (j := 2) (List.mem_append_right _ (List.mem_append_left _ (List.mem_of_getElem? (i := 0) rfl))) rfl hi5 (by decide) hf18_5 rfl rfl dX5_letIn_27 ?_
    refine q_iload_n F 2 dX5_letIn_30 rfl ?_
    refine q_iconst F dX5_letIn_31 (v := (-1)) (by decide) ?_
    refine q_perm pf1 ?_
    refine q_iast F 1 rfl h rfl (by omega) (by decide) dX5_letIn_32 (ws' := nC E a (t 0) sn (va_up B 2 (upd (B 2) h (-1))) ++ (kC (a 1) (tP T h) (brg (tK T h) (tP T h) kp km ku) (kpu (tK T h) (brg (tK T h) (tP T h) kp km ku)) ++ tl)) rfl ?_
    refine q_aload_n F 1 dX5_letIn_33 rfl ?_
    refine q_get F (ci := 5) (j := 3) (List.mem_append_left _ (List.mem_of_getElem? (i := 0) rfl)) rfl hi5 (by decide) hf22_5 rfl rfl dX5_letIn_34 ?_
    refine q_iload_n F 2 dX5_letIn_37 rfl ?_
    refine q_aload_n F 1 dX5_letIn_38 rfl ?_
    refine q_get F (ci := 5) (j := 1) (List.mem_append_left _ (List.mem_of_getElem? (i := 0) rfl)) rfl hi5 (by decide) hf12_5 rfl rfl dX5_letIn_39 ?_
    refine q_get F (ci := 2) (j := 1) (List.mem_append_right _ (List.mem_append_left _ (List.mem_of_getElem? (i := 0) rfl))) rfl hi2 (by decide) hf87_2 rfl rfl dX5_letIn_42 ?_
    refine q_iast F 2 rfl h rfl (by omega) (by decide) dX5_letIn_45 (ws' := nC E a (t 0) sn (va_up (va_up B 2 (upd (B 2) h (-1))) 3 (upd (B 3) h (brg (tK T h) (tP T h) kp km ku))) ++ (kC (a 1) (tP T h) (brg (tK T h) (tP T h) kp km ku) (kpu (tK T h) (brg (tK T h) (tP T h) kp km ku)) ++ tl)) rfl ?_
    refine q_aload_n F 1 dX5_letIn_46 rfl ?_
    refine q_get F (ci := 5) (j := 4) (List.mem_append_left _ (List.mem_of_getElem? (i := 0) rfl)) rfl hi5 (by decide) hf25_5 rfl rfl dX5_letIn_47 ?_
    refine q_iload_n F 2 dX5_letIn_50 rfl ?_
    refine q_dup2 F dX5_letIn_51 rfl rfl ?_
    refine q_iald F (List.mem_append_left _ (List.mem_of_getElem? (i := 3) rfl)) h rfl (by omega) (by decide) dX5_letIn_52 ?_
    refine q_aload_n F 0 dX5_letIn_53 rfl ?_
    refine q_aload_n F 1 dX5_letIn_54 rfl ?_
    refine q_get F (ci := 5) (j := 1) (List.mem_append_left _ (List.mem_of_getElem? (i := 0) rfl)) rfl hi5 (by decide) hf12_5 rfl rfl dX5_letIn_55 ?_
    refine q_get F (ci := 2) (j := 1) (List.mem_append_right _ (List.mem_append_left _ (List.mem_of_getElem? (i := 0) rfl))) rfl hi2 (by decide) hf87_2 rfl rfl dX5_letIn_58 ?_
    obtain ⟨hk5_0, hm5_0⟩ := hH h (by omega)
    rcases (show tK T h = 0 ∨ tK T h = 1 ∨ tK T h = 2 ∨ tK T h = 3 ∨ tK T h = 4 by omega) with ek | ek | ek | ek | ek
    · skip
      rw [ek] at hm5_0
      have hm6 : (tA T h, (.inr (0, [.int (tP T h), .int (tL T h), .int (tE T h)]) : va_E)) ∈ tl := hm5_0
      refine q_callV F (ci := 0) (As := [.int (brg (tK T h) (tP T h) kp km ku)]) (rest := [.int (B 4 h), .int (nI h), .ref (a 4)]) (List.mem_append_right _ (List.mem_append_right _ hm6)) rfl (c_X0_lateAt_0 l E _ (tA T h) (tP T h) (tL T h) (tE T h) (brg (tK T h) (tP T h) kp km ku) (List.mem_append_right _ (List.mem_append_right _ hm6))) (List.Perm.refl _) gX5_letIn_X0_lateAt rfl rfl rfl hd_X0_lateAt ⟨by decide, by decide⟩ rfl (Nat.le_of_ble_eq_true rfl) dX5_letIn_61 ⟨by decide, by decide⟩ (fun v_ w_ hvw => ?_)
      rw [hvw.1, hvw.2]
      clear hvw
      refine q_at (pc' := 64) (st' := [.int (mx (nI 0) ((brg (tK T h) (tP T h) kp km ku) - nI 4 * (tL T h)) * (tE T h)), .int (B 4 h), .int (nI h), .ref (a 4)]) (ws' := nC E a (t 0) sn (va_up (va_up B 2 (upd (B 2) h (-1))) 3 (upd (B 3) h (brg (tK T h) (tP T h) kp km ku))) ++ (kC (a 1) (tP T h) (brg (tK T h) (tP T h) kp km ku) (kpu (tK T h) (brg (tK T h) (tP T h) kp km ku)) ++ tl)) (k' := 0) (n' := 0) rfl rfl rfl rfl rfl ?_
      refine q_iadd F dX5_letIn_64 ?_
      refine q_iast F 3 rfl h rfl (by omega) (by decide) dX5_letIn_65 (ws' := nC E a (t 0) sn (va_up (va_up (va_up B 2 (upd (B 2) h (-1))) 3 (upd (B 3) h (brg (tK T h) (tP T h) kp km ku))) 4 (upd (B 4) h ((B 4 h) + (mx (nI 0) ((brg (tK T h) (tP T h) kp km ku) - nI 4 * (tL T h)) * (tE T h))))) ++ (kC (a 1) (tP T h) (brg (tK T h) (tP T h) kp km ku) (kpu (tK T h) (brg (tK T h) (tP T h) kp km ku)) ++ tl)) rfl ?_
      refine q_perm pf1 ?_
      refine q_perm pf1 ?_
      refine q_vret F hr_ dX5_letIn_66 (hp_ _ _ ⟨rfl, ?_⟩)
      simp only [liB, ltA, ek]
    · skip
      rw [ek] at hm5_0
      have hm6 : (tA T h, (.inr (4, [.int (tP T h), .int (tL T h), .int (tE T h)]) : va_E)) ∈ tl := hm5_0
      refine q_callU F (ci := 4) (As := [.int (brg (tK T h) (tP T h) kp km ku)]) (rest := [.int (B 4 h), .int (nI h), .ref (a 4)]) (List.mem_append_right _ (List.mem_append_right _ hm6)) rfl (c_X0_lateAt_4 l E _ (tA T h) (tP T h) (tL T h) (tE T h) (brg (tK T h) (tP T h) kp km ku) (List.mem_append_right _ (List.mem_append_right _ hm6))) (List.Perm.refl _) gX5_letIn_X0_lateAt_u90X4 rfl rfl rfl rfl hd_X0_lateAt_U ⟨by decide, by decide⟩ rfl (Nat.le_of_ble_eq_true rfl) dX5_letIn_61 ⟨by decide, by decide⟩ (fun v_ w_ hvw => ?_)
      rw [hvw.1, hvw.2]
      clear hvw
      refine q_at (pc' := 64) (st' := [.int (mx (nI 0) ((brg (tK T h) (tP T h) kp km ku) - nI 4 * (tL T h)) * (tE T h)), .int (B 4 h), .int (nI h), .ref (a 4)]) (ws' := nC E a (t 0) sn (va_up (va_up B 2 (upd (B 2) h (-1))) 3 (upd (B 3) h (brg (tK T h) (tP T h) kp km ku))) ++ (kC (a 1) (tP T h) (brg (tK T h) (tP T h) kp km ku) (kpu (tK T h) (brg (tK T h) (tP T h) kp km ku)) ++ tl)) (k' := 0) (n' := 0) rfl rfl rfl rfl rfl ?_
      refine q_iadd F dX5_letIn_64 ?_
      refine q_iast F 3 rfl h rfl (by omega) (by decide) dX5_letIn_65 (ws' := nC E a (t 0) sn (va_up (va_up (va_up B 2 (upd (B 2) h (-1))) 3 (upd (B 3) h (brg (tK T h) (tP T h) kp km ku))) 4 (upd (B 4) h ((B 4 h) + (mx (nI 0) ((brg (tK T h) (tP T h) kp km ku) - nI 4 * (tL T h)) * (tE T h))))) ++ (kC (a 1) (tP T h) (brg (tK T h) (tP T h) kp km ku) (kpu (tK T h) (brg (tK T h) (tP T h) kp km ku)) ++ tl)) rfl ?_
      refine q_perm pf1 ?_
      refine q_perm pf1 ?_
      refine q_vret F hr_ dX5_letIn_66 (hp_ _ _ ⟨rfl, ?_⟩)
      simp only [liB, ltA, ek]
    · skip
      rw [ek] at hm5_0
      have hm6 : (tA T h, (.inr (1, [.int (tP T h), .int (tL T h), .int (tE T h)]) : va_E)) ∈ tl := hm5_0
      refine q_callO F (ci := 1) (As := [.int (brg (tK T h) (tP T h) kp km ku)]) (rest := [.int (B 4 h), .int (nI h), .ref (a 4)]) (List.mem_append_right _ (List.mem_append_right _ hm6)) rfl (c_X1_lateAt l E _ (tA T h) (brg (tK T h) (tP T h) kp km ku)) (List.Perm.refl _) gX5_letIn_X1_lateAt_u90X1 rfl rfl rfl hc_lateAt hd_X1_lateAt_O ⟨by decide, by decide⟩ rfl (Nat.le_of_ble_eq_true rfl) dX5_letIn_61 ⟨by decide, by decide⟩ (fun v_ w_ hvw => ?_)
      rw [hvw.1, hvw.2]
      clear hvw
      refine q_at (pc' := 64) (st' := [.int (nI 0), .int (B 4 h), .int (nI h), .ref (a 4)]) (ws' := nC E a (t 0) sn (va_up (va_up B 2 (upd (B 2) h (-1))) 3 (upd (B 3) h (brg (tK T h) (tP T h) kp km ku))) ++ (kC (a 1) (tP T h) (brg (tK T h) (tP T h) kp km ku) (kpu (tK T h) (brg (tK T h) (tP T h) kp km ku)) ++ tl)) (k' := 0) (n' := 0) rfl rfl rfl rfl rfl ?_
      refine q_iadd F dX5_letIn_64 ?_
      refine q_iast F 3 rfl h rfl (by omega) (by decide) dX5_letIn_65 (ws' := nC E a (t 0) sn (va_up (va_up (va_up B 2 (upd (B 2) h (-1))) 3 (upd (B 3) h (brg (tK T h) (tP T h) kp km ku))) 4 (upd (B 4) h ((B 4 h) + (nI 0)))) ++ (kC (a 1) (tP T h) (brg (tK T h) (tP T h) kp km ku) (kpu (tK T h) (brg (tK T h) (tP T h) kp km ku)) ++ tl)) rfl ?_
      refine q_perm pf1 ?_
      refine q_perm pf1 ?_
      refine q_vret F hr_ dX5_letIn_66 (hp_ _ _ ⟨rfl, ?_⟩)
      simp only [liB, ltA, ek]
    · skip
      rw [ek] at hm5_0
      have hm6 : (tA T h, (.inr (9, [.int (tP T h), .int (tL T h), .int (tE T h)]) : va_E)) ∈ tl := hm5_0
      refine q_callU F (ci := 9) (As := [.int (brg (tK T h) (tP T h) kp km ku)]) (rest := [.int (B 4 h), .int (nI h), .ref (a 4)]) (List.mem_append_right _ (List.mem_append_right _ hm6)) rfl (c_X0_lateAt_9 l E _ (tA T h) (tP T h) (tL T h) (tE T h) (brg (tK T h) (tP T h) kp km ku) (List.mem_append_right _ (List.mem_append_right _ hm6))) (List.Perm.refl _) gX5_letIn_X0_lateAt_u90X9 rfl rfl rfl rfl hd_X0_lateAt_U ⟨by decide, by decide⟩ rfl (Nat.le_of_ble_eq_true rfl) dX5_letIn_61 ⟨by decide, by decide⟩ (fun v_ w_ hvw => ?_)
      rw [hvw.1, hvw.2]
      clear hvw
      refine q_at (pc' := 64) (st' := [.int (mx (nI 0) ((brg (tK T h) (tP T h) kp km ku) - nI 4 * (tL T h)) * (tE T h)), .int (B 4 h), .int (nI h), .ref (a 4)]) (ws' := nC E a (t 0) sn (va_up (va_up B 2 (upd (B 2) h (-1))) 3 (upd (B 3) h (brg (tK T h) (tP T h) kp km ku))) ++ (kC (a 1) (tP T h) (brg (tK T h) (tP T h) kp km ku) (kpu (tK T h) (brg (tK T h) (tP T h) kp km ku)) ++ tl)) (k' := 0) (n' := 0) rfl rfl rfl rfl rfl ?_
      refine q_iadd F dX5_letIn_64 ?_
      refine q_iast F 3 rfl h rfl (by omega) (by decide) dX5_letIn_65 (ws' := nC E a (t 0) sn (va_up (va_up (va_up B 2 (upd (B 2) h (-1))) 3 (upd (B 3) h (brg (tK T h) (tP T h) kp km ku))) 4 (upd (B 4) h ((B 4 h) + (mx (nI 0) ((brg (tK T h) (tP T h) kp km ku) - nI 4 * (tL T h)) * (tE T h))))) ++ (kC (a 1) (tP T h) (brg (tK T h) (tP T h) kp km ku) (kpu (tK T h) (brg (tK T h) (tP T h) kp km ku)) ++ tl)) rfl ?_
      refine q_perm pf1 ?_
      refine q_perm pf1 ?_
      refine q_vret F hr_ dX5_letIn_66 (hp_ _ _ ⟨rfl, ?_⟩)
      simp only [liB, ltA, ek]
    · skip
      rw [ek] at hm5_0
      have hm6 : (tA T h, (.inr (3, [.int (tP T h), .int (tL T h), .int (tE T h)]) : va_E)) ∈ tl := hm5_0
      refine q_callU F (ci := 3) (As := [.int (brg (tK T h) (tP T h) kp km ku)]) (rest := [.int (B 4 h), .int (nI h), .ref (a 4)]) (List.mem_append_right _ (List.mem_append_right _ hm6)) rfl (c_X0_lateAt_3 l E _ (tA T h) (tP T h) (tL T h) (tE T h) (brg (tK T h) (tP T h) kp km ku) (List.mem_append_right _ (List.mem_append_right _ hm6))) (List.Perm.refl _) gX5_letIn_X0_lateAt_u90X3 rfl rfl rfl rfl hd_X0_lateAt_U ⟨by decide, by decide⟩ rfl (Nat.le_of_ble_eq_true rfl) dX5_letIn_61 ⟨by decide, by decide⟩ (fun v_ w_ hvw => ?_)
      rw [hvw.1, hvw.2]
      clear hvw
      refine q_at (pc' := 64) (st' := [.int (mx (nI 0) ((brg (tK T h) (tP T h) kp km ku) - nI 4 * (tL T h)) * (tE T h)), .int (B 4 h), .int (nI h), .ref (a 4)]) (ws' := nC E a (t 0) sn (va_up (va_up B 2 (upd (B 2) h (-1))) 3 (upd (B 3) h (brg (tK T h) (tP T h) kp km ku))) ++ (kC (a 1) (tP T h) (brg (tK T h) (tP T h) kp km ku) (kpu (tK T h) (brg (tK T h) (tP T h) kp km ku)) ++ tl)) (k' := 0) (n' := 0) rfl rfl rfl rfl rfl ?_
      refine q_iadd F dX5_letIn_64 ?_
      refine q_iast F 3 rfl h rfl (by omega) (by decide) dX5_letIn_65 (ws' := nC E a (t 0) sn (va_up (va_up (va_up B 2 (upd (B 2) h (-1))) 3 (upd (B 3) h (brg (tK T h) (tP T h) kp km ku))) 4 (upd (B 4) h ((B 4 h) + (mx (nI 0) ((brg (tK T h) (tP T h) kp km ku) - nI 4 * (tL T h)) * (tE T h))))) ++ (kC (a 1) (tP T h) (brg (tK T h) (tP T h) kp km ku) (kpu (tK T h) (brg (tK T h) (tP T h) kp km ku)) ++ tl)) rfl ?_
      refine q_perm pf1 ?_
      refine q_perm pf1 ?_
      refine q_vret F hr_ dX5_letIn_66 (hp_ _ _ ⟨rfl, ?_⟩)
      simp only [liB, ltA, ek]
  · skip
    have hb_5 := bI_0 h_5
    exact absurd hb_5 (by rw [ho]; decide)

set_option maxHeartbeats 4000000 in
set_option maxRecDepth 100000 in
theorem c_X5_letAllIn (l : Launch) (E : gEnv) (a t : Nat → Nat) (T : gTown) (sn : Int32) (B : Nat → Nat → Int32) (kp km ku : Int32) (tl : va_W) (hT : isIn (tC E t T) tl) (hH : isHs T tl) (hn : tN T ≤ 6) (lw : Nat) (hl3 : lw < 3) : Cn l E yX5_letAllIn wsX5_letAllIn (rmL 4 0 0) [.ref (a 0), .int (nI lw)] (nC E a (t 0) sn B ++ (kC (a 1) kp km ku ++ tl)) 0 0 (fun v w => v = none ∧ w = nC E a (t 0) sn ((laN T lw 6 (B, kp, km, ku)).1) ++ (kC (a 1) ((laN T lw 6 (B, kp, km, ku)).2.1) ((laN T lw 6 (B, kp, km, ku)).2.2.1) ((laN T lw 6 (B, kp, km, ku)).2.2.2) ++ tl)) := by
  refine Cn.of (own := RX5) (cc := cX5_letAllIn) (maxL := 4) (ret := none) (lv := [(0, .ref (a 0)), (1, .int (nI lw))]) (by decide) rfl rfl (Nat.le_of_ble_eq_true rfl) rfl ?_
  intro p_ e_ s_ m_ args_ below_ meth_ c_ A_ P_ hp_ F hr_ hnm_
  have hd_X5_nextBy : yX5_nextBy.cls = RX5 ∧ yX5_nextBy.cls ≠ "java/lang/invoke/MethodHandle" ∧ yX5_nextBy.cls ≠ "java/lang/invoke/VarHandle" ∧ (parseMethodDescriptor yX5_nextBy.desc).map (fun d => d.parameters.length) = some 1 := by decide +kernel
  have hd_X5_letIn : yX5_letIn.cls = RX5 ∧ yX5_letIn.cls ≠ "java/lang/invoke/MethodHandle" ∧ yX5_letIn.cls ≠ "java/lang/invoke/VarHandle" ∧ (parseMethodDescriptor yX5_letIn.desc).map (fun d => d.parameters.length) = some 1 := by decide +kernel
  refine q_iconst F dX5_letAllIn_0 (v := nI 0) (by decide) ?_
  refine q_istore_n F (lv' := [(2, .int (nI 0)), (0, .ref (a 0)), (1, .int (nI lw))]) dX5_letAllIn_1 (by decide) rfl ?_
  have lb2 : ∀ (fu : Nat) (i : Nat) (B9 : Nat → Nat → Int32) (p9 : Int32) (m9 : Int32) (u9 : Int32) (hi : i ≤ 6) (hl : laN T lw (6 - i) (B9, p9, m9, u9) = laN T lw 6 (B, kp, km, ku)), 6 - i < fu → gW p_ l e_ (rmL 4 0 0) s_ m_ args_ below_ meth_ c_ E A_ 4 (MQ below_ (gQ E A_ P_) args_ s_ 0 0 A_) 2 [(0, .ref (a 0)), (1, .int (nI lw)), (2, .int (nI i))] [] (nC E a (t 0) sn B9 ++ (kC (a 1) p9 m9 u9 ++ tl)) 0 0 := by
    intro fu_2
    induction fu_2 with
    | zero => intro i B9 p9 m9 u9 hi hl hfu; exact absurd hfu (Nat.not_lt_zero _)
    | succ fu_2 ih_2 =>
      intro i B9 p9 m9 u9 hi hl hfu_2
      refine q_iload_n F 2 dX5_letAllIn_2 rfl ?_
      refine q_bipush F dX5_letAllIn_3 (v := nI 6) (by decide) ?_
      refine q_icmp_ge F (tgt := 31) dX5_letAllIn_5 (by decide) (fun h_5 => ?_) (fun h_5 => ?_)
      · skip
        have hn_5 : i ≥ 6 := nf_ge_t (by omega) (by omega) h_5
        refine q_perm pf1 ?_
        refine q_perm pf1 ?_
        refine q_vret F hr_ dX5_letAllIn_31 (hp_ _ _ ⟨rfl, ?_⟩)
        rw [← hl]; first | (rw [show 6 - i = 0 by omega]; rfl) | (rw [show 6 - i = 6 - (i + 1) + 1 by omega, laN, if_pos (by exact h_16)])
      · skip
        have hn_5 : i < 6 := nf_ge_f (by omega) (by omega) h_5
        refine q_aload_n F 0 dX5_letAllIn_8 rfl ?_
        refine q_iload_n F 1 dX5_letAllIn_9 rfl ?_
        refine q_callV F (ci := 5) (As := [.int (nI lw)]) (rest := []) (List.mem_append_left _ (List.mem_of_getElem? (i := 0) rfl)) rfl (c_X5_nextBy l E a t T sn B9 p9 m9 u9 (nC E a (t 0) sn B9 ++ (kC (a 1) p9 m9 u9 ++ tl)) (isIn.l _ _) (isIn.r _ (isIn.l _ _)) (isIn.r _ (isIn.r _ hT)) (isHs.r _ (isHs.r _ hH)) hn lw hl3) (List.Perm.refl _) gX5_letAllIn_X5_nextBy rfl rfl rfl hd_X5_nextBy ⟨by decide, by decide⟩ rfl (Nat.le_of_ble_eq_true rfl) dX5_letAllIn_10 ⟨by decide, by decide⟩ (fun v_ w_ hvw => ?_)
        rw [hvw.1, hvw.2]
        clear hvw
        refine q_at (pc' := 13) (st' := [.int (nxB T lw (B9 2) p9)]) (ws' := nC E a (t 0) sn B9 ++ (kC (a 1) p9 m9 u9 ++ tl)) (k' := 0) (n' := 0) rfl rfl rfl rfl rfl ?_
        refine q_istore_n F (lv' := [(3, .int (nxB T lw (B9 2) p9)), (0, .ref (a 0)), (1, .int (nI lw)), (2, .int (nI i))]) dX5_letAllIn_13 (by decide) rfl ?_
        refine q_iload_n F 0 dX5_letAllIn_14 rfl ?_
        refine q_iconst F dX5_letAllIn_15 (v := (-1)) (by decide) ?_
        refine q_icmp_ne F (tgt := 20) dX5_letAllIn_16 (by decide) (fun h_16 => ?_) (fun h_16 => ?_)
        · skip
          obtain ⟨j, hj, ej, hout⟩ := nxB_in hn h_16
          rw [ej]
          refine q_aload_n F 1 dX5_letAllIn_20 rfl ?_
          refine q_iload_n F 0 dX5_letAllIn_21 rfl ?_
          refine q_perm pf1 ?_
          refine q_perm pf1 ?_
          refine q_callV F (ci := 5) (As := [.int (nI j)]) (rest := []) (List.mem_append_left _ (List.mem_of_getElem? (i := 0) rfl)) rfl (c_X5_letIn l E a t T sn B9 p9 m9 u9 tl hT hH hn j (by omega) hout) (List.Perm.refl _) gX5_letAllIn_X5_letIn rfl rfl rfl hd_X5_letIn ⟨by decide, by decide⟩ rfl (Nat.le_of_ble_eq_true rfl) dX5_letAllIn_22 ⟨by decide, by decide⟩ (fun v_ w_ hvw => ?_)
          rw [hvw.1, hvw.2]
          clear hvw
          refine q_at (pc' := 25) (st' := []) (ws' := nC E a (t 0) sn (liB T B9 p9 m9 u9 j) ++ (kC (a 1) (tP T j) (brg (tK T j) (tP T j) p9 m9 u9) (kpu (tK T j) (brg (tK T j) (tP T j) p9 m9 u9)) ++ tl)) (k' := 0) (n' := 0) rfl rfl rfl rfl rfl ?_
          refine q_iinc F 3 (v := nI (i + 1)) (lv' := [(2, .int (nI (i + 1))), (3, .int (nI j)), (0, .ref (a 0)), (1, .int (nI lw))]) dX5_letAllIn_25 rfl (nI_1 _) (by decide) rfl ?_
          refine q_goto F (tgt := 2) dX5_letAllIn_28 (by decide) ?_
          refine q_lv [2, 3, 0] (lv' := [(0, .ref (a 0)), (1, .int (nI lw)), (2, .int (nI (i + 1)))]) rfl ?_
          refine q_perm pf1 ?_
          refine q_perm pf1 ?_
          refine q_to (lv' := [(0, .ref (a 0)), (1, .int (nI lw)), (2, .int (nI (i + 1)))]) (st' := []) (ws' := nC E a (t 0) sn (liB T B9 p9 m9 u9 j) ++ (kC (a 1) (tP T j) (brg (tK T j) (tP T j) p9 m9 u9) (kpu (tK T j) (brg (tK T j) (tP T j) p9 m9 u9)) ++ tl)) rfl rfl rfl ?_
          exact ih_2 (i + 1) (liB T B9 p9 m9 u9 j) (tP T j) (brg (tK T j) (tP T j) p9 m9 u9) (kpu (tK T j) (brg (tK T j) (tP T j) p9 m9 u9)) (by omega) (by rw [← hl, show 6 - i = 6 - (i + 1) + 1 by omega, laN, if_neg (by intro z; exact h_16 z)]; congr 1; show _ = liN T (B9, p9, m9, u9) (nxB T lw (B9 2) p9).toNatClampNeg; rw [ej, nI_clamp (by omega)]; rfl) (by omega)
        · skip
          refine q_perm pf1 ?_
          refine q_perm pf1 ?_
          refine q_vret F hr_ dX5_letAllIn_19 (hp_ _ _ ⟨rfl, ?_⟩)
          rw [← hl]; first | (rw [show 6 - i = 0 by omega]; rfl) | (rw [show 6 - i = 6 - (i + 1) + 1 by omega, laN, if_pos (by exact h_16)])
  refine q_lv [1, 2, 0] (lv' := [(0, .ref (a 0)), (1, .int (nI lw)), (2, .int (nI 0))]) rfl ?_
  refine q_perm pf1 ?_
  refine q_perm pf1 ?_
  refine q_to (lv' := [(0, .ref (a 0)), (1, .int (nI lw)), (2, .int (nI 0))]) (st' := []) (ws' := nC E a (t 0) sn B ++ (kC (a 1) kp km ku ++ tl)) rfl rfl rfl ?_
  exact lb2 (6 - 0 + 1) 0 B kp km ku (by omega) (rfl) (Nat.lt_succ_self _)

set_option maxHeartbeats 4000000 in
set_option maxRecDepth 100000 in
theorem c_X5_fall (l : Launch) (E : gEnv) (a t : Nat → Nat) (T : gTown) (sn : Int32) (B : Nat → Nat → Int32) (kp km ku : Int32) (tl : va_W) (hT : isIn (tC E t T) tl) (hH : isHs T tl) (hn : tN T ≤ 6) : Cn l E yX5_fall wsX5_fall (rmL 3 0 0) [.ref (a 0)] (nC E a (t 0) sn B ++ (kC (a 1) kp km ku ++ tl)) 0 0 (fun v w => v = some (.int (flA T (B 2) (tN T))) ∧ w = nC E a (t 0) sn (va_up (va_up B 2 (flS (B 2) (tN T))) 5 (flO T (B 2) (B 5) (tN T))) ++ (kC (a 1) kp (nI 0) (nI 0) ++ tl)) := by
  refine Cn.of (own := RX5) (cc := cX5_fall) (maxL := 4) (ret := (some .int)) (lv := [(0, .ref (a 0))]) (by decide) rfl rfl (Nat.le_of_ble_eq_true rfl) rfl ?_
  intro p_ e_ s_ m_ args_ below_ meth_ c_ A_ P_ hp_ F hr_ hnm_
  have hf41_5 : Cond.fieldLink RX5 41 "KeyOnStreet$Night" (TX5 0).2.1 (TX5 0).2.2.1 ∈ wsX5_fall := by decide +kernel
  have hi5 : ∀ w ∈ u_ws RX5 TX5 10, w ∈ wsX5_fall := by decide +kernel
  have hf95_8 : Cond.fieldLink RX5 95 "KeyOnStreet$Town" (TX8 2).2.1 (TX8 2).2.2.1 ∈ wsX5_fall := by decide +kernel
  have hi8 : ∀ w ∈ u_ws RX8 TX8 4, w ∈ wsX5_fall := by decide +kernel
  have hf12_5 : Cond.fieldLink RX5 12 "KeyOnStreet$Night" (TX5 1).2.1 (TX5 1).2.2.1 ∈ wsX5_fall := by decide +kernel
  have hf101_2 : Cond.fieldLink RX5 101 "KeyOnStreet$Key" (TX2 0).2.1 (TX2 0).2.2.1 ∈ wsX5_fall := by decide +kernel
  have hi2 : ∀ w ∈ u_ws RX2 TX2 3, w ∈ wsX5_fall := by decide +kernel
  have hd_X2_put : yX2_put.cls = RX2 ∧ yX2_put.cls ≠ "java/lang/invoke/MethodHandle" ∧ yX2_put.cls ≠ "java/lang/invoke/VarHandle" ∧ (parseMethodDescriptor yX2_put.desc).map (fun d => d.parameters.length) = some 3 := by decide +kernel
  have hd_X5_isOut : yX5_isOut.cls = RX5 ∧ yX5_isOut.cls ≠ "java/lang/invoke/MethodHandle" ∧ yX5_isOut.cls ≠ "java/lang/invoke/VarHandle" ∧ (parseMethodDescriptor yX5_isOut.desc).map (fun d => d.parameters.length) = some 1 := by decide +kernel
  have hd_X8_at : yX8_at.cls = RX8 ∧ yX8_at.cls ≠ "java/lang/invoke/MethodHandle" ∧ yX8_at.cls ≠ "java/lang/invoke/VarHandle" ∧ (parseMethodDescriptor yX8_at.desc).map (fun d => d.parameters.length) = some 1 := by decide +kernel
  have hd_X0_sleepersOut : yX0_sleepersOut.cls = RX0 ∧ yX0_sleepersOut.cls ≠ "java/lang/invoke/MethodHandle" ∧ yX0_sleepersOut.cls ≠ "java/lang/invoke/VarHandle" ∧ (parseMethodDescriptor yX0_sleepersOut.desc).map (fun d => d.parameters.length) = some 0 := by decide +kernel
  have hf28_5 : Cond.fieldLink RX5 28 "KeyOnStreet$Night" (TX5 5).2.1 (TX5 5).2.2.1 ∈ wsX5_fall := by decide +kernel
  have hf18_5 : Cond.fieldLink RX5 18 "KeyOnStreet$Night" (TX5 2).2.1 (TX5 2).2.2.1 ∈ wsX5_fall := by decide +kernel
  have hd_X0_sleepersOut_U : "KeyOnStreet$House" ≠ "java/lang/invoke/MethodHandle" ∧ "KeyOnStreet$House" ≠ "java/lang/invoke/VarHandle" ∧ (parseMethodDescriptor "()I").map (fun d => d.parameters.length) = some 0 := by decide +kernel
  have hd_X1_sleepersOut_O : "KeyOnStreet$House" ≠ "java/lang/invoke/MethodHandle" ∧ "KeyOnStreet$House" ≠ "java/lang/invoke/VarHandle" ∧ (parseMethodDescriptor "()I").map (fun d => d.parameters.length) = some 0 := by decide +kernel
  have hc_sleepersOut : Cond.code ⟨"KeyOnStreet$House", "sleepersOut", "()I"⟩ cX0_sleepersOut 1 (some .int) ∈ wsX5_fall := by decide +kernel
  refine q_iconst F dX5_fall_0 (v := nI 0) (by decide) ?_
  refine q_istore_n F (lv' := [(1, .int (nI 0)), (0, .ref (a 0))]) dX5_fall_1 (by decide) rfl ?_
  refine q_iconst F dX5_fall_2 (v := nI 0) (by decide) ?_
  refine q_istore_n F (lv' := [(2, .int (nI 0)), (1, .int (nI 0)), (0, .ref (a 0))]) dX5_fall_3 (by decide) rfl ?_
  have lb4 : ∀ (fu : Nat) (i : Nat) (hi : i ≤ tN T), tN T - i < fu → gW p_ l e_ (rmL 3 0 0) s_ m_ args_ below_ meth_ c_ E A_ 4 (MQ below_ (gQ E A_ P_) args_ s_ 0 0 A_) 4 [(0, .ref (a 0)), (1, .int (flA T (B 2) i)), (2, .int (nI i))] [] (nC E a (t 0) sn (va_up (va_up B 2 (flS (B 2) i)) 5 (flO T (B 2) (B 5) i)) ++ (kC (a 1) kp km ku ++ tl)) 0 0 := by
    intro fu_4
    induction fu_4 with
    | zero => intro i hi hfu; exact absurd hfu (Nat.not_lt_zero _)
    | succ fu_4 ih_4 =>
      intro i hi hfu_4
      refine q_iload_n F 2 dX5_fall_4 rfl ?_
      refine q_aload_n F 0 dX5_fall_5 rfl ?_
      refine q_get F (ci := 5) (j := 0) (List.mem_append_left _ (List.mem_of_getElem? (i := 0) rfl)) rfl hi5 (by decide) hf41_5 rfl rfl dX5_fall_6 ?_
      refine q_get F (ci := 8) (j := 2) (List.mem_append_right _ (List.mem_append_right _ (hT _ (List.mem_of_getElem? (i := 0) rfl)))) rfl hi8 (by decide) hf95_8 rfl rfl dX5_fall_9 ?_
      refine q_icmp_ge F (tgt := 62) dX5_fall_12 (by decide) (fun h_12 => ?_) (fun h_12 => ?_)
      · skip
        have hn_12 : i ≥ (tN T) := nf_ge_t (by omega) (by omega) h_12
        refine q_aload_n F 0 dX5_fall_62 rfl ?_
        refine q_get F (ci := 5) (j := 1) (List.mem_append_left _ (List.mem_of_getElem? (i := 0) rfl)) rfl hi5 (by decide) hf12_5 rfl rfl dX5_fall_63 ?_
        refine q_aload_n F 0 dX5_fall_66 rfl ?_
        refine q_get F (ci := 5) (j := 1) (List.mem_append_left _ (List.mem_of_getElem? (i := 0) rfl)) rfl hi5 (by decide) hf12_5 rfl rfl dX5_fall_67 ?_
        refine q_get F (ci := 2) (j := 0) (List.mem_append_right _ (List.mem_append_left _ (List.mem_of_getElem? (i := 0) rfl))) rfl hi2 (by decide) hf101_2 rfl rfl dX5_fall_70 ?_
        refine q_iconst F dX5_fall_73 (v := nI 0) (by decide) ?_
        refine q_iconst F dX5_fall_74 (v := nI 0) (by decide) ?_
        refine q_perm pf1 ?_
        refine q_callV F (ci := 2) (As := [.int kp, .int (nI 0), .int (nI 0)]) (rest := []) (List.mem_append_left _ (List.mem_of_getElem? (i := 0) rfl)) rfl (c_X2_put l E (a 1) kp km ku kp (nI 0) (nI 0) _) (List.Perm.refl _) gX5_fall_X2_put rfl rfl rfl hd_X2_put ⟨by decide, by decide⟩ rfl (Nat.le_of_ble_eq_true rfl) dX5_fall_75 ⟨by decide, by decide⟩ (fun v_ w_ hvw => ?_)
        rw [hvw.1, hvw.2]
        clear hvw
        refine q_at (pc' := 78) (st' := []) (ws' := kC (a 1) kp (nI 0) (nI 0) ++ (nC E a (t 0) sn (va_up (va_up B 2 (flS (B 2) i)) 5 (flO T (B 2) (B 5) i)) ++ tl)) (k' := 0) (n' := 0) rfl rfl rfl rfl rfl ?_
        refine q_iload_n F 1 dX5_fall_78 rfl ?_
        refine q_perm pf1 ?_
        refine q_iret F hr_ dX5_fall_79 (hp_ _ _ ⟨congrArg (fun z => some (Value.int z)) ?_, ?_⟩)
        · (have e6 : i = tN T := by omega); rw [e6]
        · (have e6 : i = tN T := by omega); rw [e6]
      · skip
        have hn_12 : i < (tN T) := nf_ge_f (by omega) (by omega) h_12
        refine q_aload_n F 0 dX5_fall_15 rfl ?_
        refine q_iload_n F 2 dX5_fall_16 rfl ?_
        refine q_callV F (ci := 5) (As := [.int (nI i)]) (rest := []) (List.mem_append_left _ (List.mem_of_getElem? (i := 0) rfl)) rfl (c_X5_isOut l E a t T sn (va_up (va_up B 2 (flS (B 2) i)) 5 (flO T (B 2) (B 5) i)) kp km ku (nC E a (t 0) sn (va_up (va_up B 2 (flS (B 2) i)) 5 (flO T (B 2) (B 5) i)) ++ (kC (a 1) kp km ku ++ tl)) (isIn.l _ _) (isIn.r _ (isIn.l _ _)) (isIn.r _ (isIn.r _ hT)) (isHs.r _ (isHs.r _ hH)) hn i (by omega)) (List.Perm.refl _) gX5_fall_X5_isOut rfl rfl rfl hd_X5_isOut ⟨by decide, by decide⟩ rfl (Nat.le_of_ble_eq_true rfl) dX5_fall_17 ⟨by decide, by decide⟩ (fun v_ w_ hvw => ?_)
        rw [hvw.1, hvw.2]
        clear hvw
        refine q_at (pc' := 20) (st' := [.int (bI (outB (flS (B 2) i) i))]) (ws' := nC E a (t 0) sn (va_up (va_up B 2 (flS (B 2) i)) 5 (flO T (B 2) (B 5) i)) ++ (kC (a 1) kp km ku ++ tl)) (k' := 0) (n' := 0) rfl rfl rfl rfl rfl ?_
        refine q_if_eq F (tgt := 56) dX5_fall_20 (by decide) (fun h_20 => ?_) (fun h_20 => ?_)
        · skip
          have hb_20 := bI_0 h_20
          refine q_iinc F 2 (v := nI (i + 1)) (lv' := [(2, .int (nI (i + 1))), (0, .ref (a 0)), (1, .int (flA T (B 2) i))]) dX5_fall_56 rfl (nI_1 _) (by decide) rfl ?_
          refine q_goto F (tgt := 4) dX5_fall_59 (by decide) ?_
          refine q_lv [1, 2, 0] (lv' := [(0, .ref (a 0)), (1, .int (flA T (B 2) i)), (2, .int (nI (i + 1)))]) rfl ?_
          refine q_perm pf1 ?_
          refine q_perm pf1 ?_
          refine q_to (lv' := [(0, .ref (a 0)), (1, .int (flA T (B 2) (i + 1))), (2, .int (nI (i + 1)))]) (st' := []) (ws' := nC E a (t 0) sn (va_up (va_up B 2 (flS (B 2) (i + 1))) 5 (flO T (B 2) (B 5) (i + 1))) ++ (kC (a 1) kp km ku ++ tl)) (cE (vE (rfl)) (cE (vE (congrArg Value.int (by first | rfl | simp [flA, slp, *]))) (cE (vE (rfl)) rfl))) rfl (by first | rfl | simp [flS, flO, slp, *]) ?_
          exact ih_4 (i + 1) (by omega) (by omega)
        · skip
          have hb_20 := bI_1 h_20
          refine q_aload_n F 0 dX5_fall_23 rfl ?_
          refine q_get F (ci := 5) (j := 0) (List.mem_append_left _ (List.mem_of_getElem? (i := 0) rfl)) rfl hi5 (by decide) hf41_5 rfl rfl dX5_fall_24 ?_
          refine q_iload_n F 2 dX5_fall_27 rfl ?_
          refine q_callV F (ci := 8) (As := [.int (nI i)]) (rest := []) (List.mem_append_right _ (List.mem_append_right _ (hT _ (List.mem_of_getElem? (i := 0) rfl)))) rfl (c_X8_at l E t T (nC E a (t 0) sn (va_up (va_up B 2 (flS (B 2) i)) 5 (flO T (B 2) (B 5) i)) ++ (kC (a 1) kp km ku ++ tl)) (isIn.r _ (isIn.r _ hT)) i (by omega) hn) (List.Perm.refl _) gX5_fall_X8_at rfl rfl rfl hd_X8_at ⟨by decide, by decide⟩ rfl (Nat.le_of_ble_eq_true rfl) dX5_fall_28 ⟨by decide, by decide⟩ (fun v_ w_ hvw => ?_)
          rw [hvw.1, hvw.2]
          clear hvw
          refine q_at (pc' := 31) (st' := [.ref (tA T i)]) (ws' := nC E a (t 0) sn (va_up (va_up B 2 (flS (B 2) i)) 5 (flO T (B 2) (B 5) i)) ++ (kC (a 1) kp km ku ++ tl)) (k' := 0) (n' := 0) rfl rfl rfl rfl rfl ?_
          obtain ⟨hk5_0, hm5_0⟩ := hH i (by omega)
          rcases (show tK T i = 0 ∨ tK T i = 1 ∨ tK T i = 2 ∨ tK T i = 3 ∨ tK T i = 4 by omega) with ek | ek | ek | ek | ek
          · skip
            rw [ek] at hm5_0
            have hm6 : (tA T i, (.inr (0, [.int (tP T i), .int (tL T i), .int (tE T i)]) : va_E)) ∈ tl := hm5_0
            refine q_callV F (ci := 0) (As := []) (rest := []) (List.mem_append_right _ (List.mem_append_right _ hm6)) rfl (c_X0_sleepersOut_0 l E _ (tA T i) (tP T i) (tL T i) (tE T i)  (List.mem_append_right _ (List.mem_append_right _ hm6))) (List.Perm.refl _) gX5_fall_X0_sleepersOut rfl rfl rfl hd_X0_sleepersOut ⟨by decide, by decide⟩ rfl (Nat.le_of_ble_eq_true rfl) dX5_fall_31 ⟨by decide, by decide⟩ (fun v_ w_ hvw => ?_)
            rw [hvw.1, hvw.2]
            clear hvw
            refine q_at (pc' := 34) (st' := [.int (tE T i)]) (ws' := nC E a (t 0) sn (va_up (va_up B 2 (flS (B 2) i)) 5 (flO T (B 2) (B 5) i)) ++ (kC (a 1) kp km ku ++ tl)) (k' := 0) (n' := 0) rfl rfl rfl rfl rfl ?_
            refine q_istore_n F (lv' := [(3, .int (tE T i)), (0, .ref (a 0)), (1, .int (flA T (B 2) i)), (2, .int (nI i))]) dX5_fall_34 (by decide) rfl ?_
            refine q_aload_n F 1 dX5_fall_35 rfl ?_
            refine q_get F (ci := 5) (j := 5) (List.mem_append_left _ (List.mem_of_getElem? (i := 0) rfl)) rfl hi5 (by decide) hf28_5 rfl rfl dX5_fall_36 ?_
            refine q_iload_n F 3 dX5_fall_39 rfl ?_
            refine q_dup2 F dX5_fall_40 rfl rfl ?_
            refine q_iald F (List.mem_append_left _ (List.mem_of_getElem? (i := 4) rfl)) i rfl (by omega) (by decide) dX5_fall_41 ?_
            refine q_iload_n F 0 dX5_fall_42 rfl ?_
            refine q_iadd F dX5_fall_43 ?_
            refine q_iast F 4 rfl i rfl (by omega) (by decide) dX5_fall_44 (ws' := nC E a (t 0) sn (va_up (va_up B 2 (flS (B 2) i)) 5 (upd (flO T (B 2) (B 5) i) i ((flO T (B 2) (B 5) i i) + (tE T i)))) ++ (kC (a 1) kp km ku ++ tl)) rfl ?_
            refine q_iload_n F 2 dX5_fall_45 rfl ?_
            refine q_iload_n F 0 dX5_fall_46 rfl ?_
            refine q_iadd F dX5_fall_47 ?_
            refine q_istore_n F (lv' := [(1, .int ((flA T (B 2) i) + (tE T i))), (3, .int (tE T i)), (0, .ref (a 0)), (2, .int (nI i))]) dX5_fall_48 (by decide) rfl ?_
            refine q_aload_n F 2 dX5_fall_49 rfl ?_
            refine q_get F (ci := 5) (j := 2) (List.mem_append_left _ (List.mem_of_getElem? (i := 0) rfl)) rfl hi5 (by decide) hf18_5 rfl rfl dX5_fall_50 ?_
            refine q_iload_n F 3 dX5_fall_53 rfl ?_
            refine q_iconst F dX5_fall_54 (v := nI 0) (by decide) ?_
            refine q_iast F 1 rfl i rfl (by omega) (by decide) dX5_fall_55 (ws' := nC E a (t 0) sn (va_up (va_up B 2 (upd (flS (B 2) i) i (nI 0))) 5 (upd (flO T (B 2) (B 5) i) i ((flO T (B 2) (B 5) i i) + (tE T i)))) ++ (kC (a 1) kp km ku ++ tl)) rfl ?_
            refine q_iinc F 3 (v := nI (i + 1)) (lv' := [(2, .int (nI (i + 1))), (1, .int ((flA T (B 2) i) + (tE T i))), (3, .int (tE T i)), (0, .ref (a 0))]) dX5_fall_56 rfl (nI_1 _) (by decide) rfl ?_
            refine q_goto F (tgt := 4) dX5_fall_59 (by decide) ?_
            refine q_lv [3, 1, 0] (lv' := [(0, .ref (a 0)), (1, .int ((flA T (B 2) i) + (tE T i))), (2, .int (nI (i + 1)))]) rfl ?_
            refine q_perm pf1 ?_
            refine q_perm pf1 ?_
            refine q_to (lv' := [(0, .ref (a 0)), (1, .int (flA T (B 2) (i + 1))), (2, .int (nI (i + 1)))]) (st' := []) (ws' := nC E a (t 0) sn (va_up (va_up B 2 (flS (B 2) (i + 1))) 5 (flO T (B 2) (B 5) (i + 1))) ++ (kC (a 1) kp km ku ++ tl)) (cE (vE (rfl)) (cE (vE (congrArg Value.int (by first | rfl | simp [flA, slp, *]))) (cE (vE (rfl)) rfl))) rfl (by first | rfl | simp [flS, flO, slp, *]) ?_
            exact ih_4 (i + 1) (by omega) (by omega)
          · skip
            rw [ek] at hm5_0
            have hm6 : (tA T i, (.inr (4, [.int (tP T i), .int (tL T i), .int (tE T i)]) : va_E)) ∈ tl := hm5_0
            refine q_callU F (ci := 4) (As := []) (rest := []) (List.mem_append_right _ (List.mem_append_right _ hm6)) rfl (c_X0_sleepersOut_4 l E _ (tA T i) (tP T i) (tL T i) (tE T i)  (List.mem_append_right _ (List.mem_append_right _ hm6))) (List.Perm.refl _) gX5_fall_X0_sleepersOut_u98X4 rfl rfl rfl rfl hd_X0_sleepersOut_U ⟨by decide, by decide⟩ rfl (Nat.le_of_ble_eq_true rfl) dX5_fall_31 ⟨by decide, by decide⟩ (fun v_ w_ hvw => ?_)
            rw [hvw.1, hvw.2]
            clear hvw
            refine q_at (pc' := 34) (st' := [.int (tE T i)]) (ws' := nC E a (t 0) sn (va_up (va_up B 2 (flS (B 2) i)) 5 (flO T (B 2) (B 5) i)) ++ (kC (a 1) kp km ku ++ tl)) (k' := 0) (n' := 0) rfl rfl rfl rfl rfl ?_
            refine q_istore_n F (lv' := [(3, .int (tE T i)), (0, .ref (a 0)), (1, .int (flA T (B 2) i)), (2, .int (nI i))]) dX5_fall_34 (by decide) rfl ?_
            refine q_aload_n F 1 dX5_fall_35 rfl ?_
            refine q_get F (ci := 5) (j := 5) (List.mem_append_left _ (List.mem_of_getElem? (i := 0) rfl)) rfl hi5 (by decide) hf28_5 rfl rfl dX5_fall_36 ?_
            refine q_iload_n F 3 dX5_fall_39 rfl ?_
            refine q_dup2 F dX5_fall_40 rfl rfl ?_
            refine q_iald F (List.mem_append_left _ (List.mem_of_getElem? (i := 4) rfl)) i rfl (by omega) (by decide) dX5_fall_41 ?_
            refine q_iload_n F 0 dX5_fall_42 rfl ?_
            refine q_iadd F dX5_fall_43 ?_
            refine q_iast F 4 rfl i rfl (by omega) (by decide) dX5_fall_44 (ws' := nC E a (t 0) sn (va_up (va_up B 2 (flS (B 2) i)) 5 (upd (flO T (B 2) (B 5) i) i ((flO T (B 2) (B 5) i i) + (tE T i)))) ++ (kC (a 1) kp km ku ++ tl)) rfl ?_
            refine q_iload_n F 2 dX5_fall_45 rfl ?_
            refine q_iload_n F 0 dX5_fall_46 rfl ?_
            refine q_iadd F dX5_fall_47 ?_
            refine q_istore_n F (lv' := [(1, .int ((flA T (B 2) i) + (tE T i))), (3, .int (tE T i)), (0, .ref (a 0)), (2, .int (nI i))]) dX5_fall_48 (by decide) rfl ?_
            refine q_aload_n F 2 dX5_fall_49 rfl ?_
            refine q_get F (ci := 5) (j := 2) (List.mem_append_left _ (List.mem_of_getElem? (i := 0) rfl)) rfl hi5 (by decide) hf18_5 rfl rfl dX5_fall_50 ?_
            refine q_iload_n F 3 dX5_fall_53 rfl ?_
            refine q_iconst F dX5_fall_54 (v := nI 0) (by decide) ?_
            refine q_iast F 1 rfl i rfl (by omega) (by decide) dX5_fall_55 (ws' := nC E a (t 0) sn (va_up (va_up B 2 (upd (flS (B 2) i) i (nI 0))) 5 (upd (flO T (B 2) (B 5) i) i ((flO T (B 2) (B 5) i i) + (tE T i)))) ++ (kC (a 1) kp km ku ++ tl)) rfl ?_
            refine q_iinc F 3 (v := nI (i + 1)) (lv' := [(2, .int (nI (i + 1))), (1, .int ((flA T (B 2) i) + (tE T i))), (3, .int (tE T i)), (0, .ref (a 0))]) dX5_fall_56 rfl (nI_1 _) (by decide) rfl ?_
            refine q_goto F (tgt := 4) dX5_fall_59 (by decide) ?_
            refine q_lv [3, 1, 0] (lv' := [(0, .ref (a 0)), (1, .int ((flA T (B 2) i) + (tE T i))), (2, .int (nI (i + 1)))]) rfl ?_
            refine q_perm pf1 ?_
            refine q_perm pf1 ?_
            refine q_to (lv' := [(0, .ref (a 0)), (1, .int (flA T (B 2) (i + 1))), (2, .int (nI (i + 1)))]) (st' := []) (ws' := nC E a (t 0) sn (va_up (va_up B 2 (flS (B 2) (i + 1))) 5 (flO T (B 2) (B 5) (i + 1))) ++ (kC (a 1) kp km ku ++ tl)) (cE (vE (rfl)) (cE (vE (congrArg Value.int (by first | rfl | simp [flA, slp, *]))) (cE (vE (rfl)) rfl))) rfl (by first | rfl | simp [flS, flO, slp, *]) ?_
            exact ih_4 (i + 1) (by omega) (by omega)
          · skip
            rw [ek] at hm5_0
            have hm6 : (tA T i, (.inr (1, [.int (tP T i), .int (tL T i), .int (tE T i)]) : va_E)) ∈ tl := hm5_0
            refine q_callO F (ci := 1) (As := []) (rest := []) (List.mem_append_right _ (List.mem_append_right _ hm6)) rfl (c_X1_sleepersOut l E _ (tA T i)) (List.Perm.refl _) gX5_fall_X1_sleepersOut_u98X1 rfl rfl rfl hc_sleepersOut hd_X1_sleepersOut_O ⟨by decide, by decide⟩ rfl (Nat.le_of_ble_eq_true rfl) dX5_fall_31 ⟨by decide, by decide⟩ (fun v_ w_ hvw => ?_)
            rw [hvw.1, hvw.2]
            clear hvw
            refine q_at (pc' := 34) (st' := [.int (nI 0)]) (ws' := nC E a (t 0) sn (va_up (va_up B 2 (flS (B 2) i)) 5 (flO T (B 2) (B 5) i)) ++ (kC (a 1) kp km ku ++ tl)) (k' := 0) (n' := 0) rfl rfl rfl rfl rfl ?_
            refine q_istore_n F (lv' := [(3, .int (nI 0)), (0, .ref (a 0)), (1, .int (flA T (B 2) i)), (2, .int (nI i))]) dX5_fall_34 (by decide) rfl ?_
            refine q_aload_n F 1 dX5_fall_35 rfl ?_
            refine q_get F (ci := 5) (j := 5) (List.mem_append_left _ (List.mem_of_getElem? (i := 0) rfl)) rfl hi5 (by decide) hf28_5 rfl rfl dX5_fall_36 ?_
            refine q_iload_n F 3 dX5_fall_39 rfl ?_
            refine q_dup2 F dX5_fall_40 rfl rfl ?_
            refine q_iald F (List.mem_append_left _ (List.mem_of_getElem? (i := 4) rfl)) i rfl (by omega) (by decide) dX5_fall_41 ?_
            refine q_iload_n F 0 dX5_fall_42 rfl ?_
            refine q_iadd F dX5_fall_43 ?_
            refine q_iast F 4 rfl i rfl (by omega) (by decide) dX5_fall_44 (ws' := nC E a (t 0) sn (va_up (va_up B 2 (flS (B 2) i)) 5 (upd (flO T (B 2) (B 5) i) i ((flO T (B 2) (B 5) i i) + (nI 0)))) ++ (kC (a 1) kp km ku ++ tl)) rfl ?_
            refine q_iload_n F 2 dX5_fall_45 rfl ?_
            refine q_iload_n F 0 dX5_fall_46 rfl ?_
            refine q_iadd F dX5_fall_47 ?_
            refine q_istore_n F (lv' := [(1, .int ((flA T (B 2) i) + (nI 0))), (3, .int (nI 0)), (0, .ref (a 0)), (2, .int (nI i))]) dX5_fall_48 (by decide) rfl ?_
            refine q_aload_n F 2 dX5_fall_49 rfl ?_
            refine q_get F (ci := 5) (j := 2) (List.mem_append_left _ (List.mem_of_getElem? (i := 0) rfl)) rfl hi5 (by decide) hf18_5 rfl rfl dX5_fall_50 ?_
            refine q_iload_n F 3 dX5_fall_53 rfl ?_
            refine q_iconst F dX5_fall_54 (v := nI 0) (by decide) ?_
            refine q_iast F 1 rfl i rfl (by omega) (by decide) dX5_fall_55 (ws' := nC E a (t 0) sn (va_up (va_up B 2 (upd (flS (B 2) i) i (nI 0))) 5 (upd (flO T (B 2) (B 5) i) i ((flO T (B 2) (B 5) i i) + (nI 0)))) ++ (kC (a 1) kp km ku ++ tl)) rfl ?_
            refine q_iinc F 3 (v := nI (i + 1)) (lv' := [(2, .int (nI (i + 1))), (1, .int ((flA T (B 2) i) + (nI 0))), (3, .int (nI 0)), (0, .ref (a 0))]) dX5_fall_56 rfl (nI_1 _) (by decide) rfl ?_
            refine q_goto F (tgt := 4) dX5_fall_59 (by decide) ?_
            refine q_lv [3, 1, 0] (lv' := [(0, .ref (a 0)), (1, .int ((flA T (B 2) i) + (nI 0))), (2, .int (nI (i + 1)))]) rfl ?_
            refine q_perm pf1 ?_
            refine q_perm pf1 ?_
            refine q_to (lv' := [(0, .ref (a 0)), (1, .int (flA T (B 2) (i + 1))), (2, .int (nI (i + 1)))]) (st' := []) (ws' := nC E a (t 0) sn (va_up (va_up B 2 (flS (B 2) (i + 1))) 5 (flO T (B 2) (B 5) (i + 1))) ++ (kC (a 1) kp km ku ++ tl)) (cE (vE (rfl)) (cE (vE (congrArg Value.int (by first | rfl | simp [flA, slp, *]))) (cE (vE (rfl)) rfl))) rfl (by first | rfl | simp [flS, flO, slp, *]) ?_
            exact ih_4 (i + 1) (by omega) (by omega)
          · skip
            rw [ek] at hm5_0
            have hm6 : (tA T i, (.inr (9, [.int (tP T i), .int (tL T i), .int (tE T i)]) : va_E)) ∈ tl := hm5_0
            refine q_callU F (ci := 9) (As := []) (rest := []) (List.mem_append_right _ (List.mem_append_right _ hm6)) rfl (c_X0_sleepersOut_9 l E _ (tA T i) (tP T i) (tL T i) (tE T i)  (List.mem_append_right _ (List.mem_append_right _ hm6))) (List.Perm.refl _) gX5_fall_X0_sleepersOut_u98X9 rfl rfl rfl rfl hd_X0_sleepersOut_U ⟨by decide, by decide⟩ rfl (Nat.le_of_ble_eq_true rfl) dX5_fall_31 ⟨by decide, by decide⟩ (fun v_ w_ hvw => ?_)
            rw [hvw.1, hvw.2]
            clear hvw
            refine q_at (pc' := 34) (st' := [.int (tE T i)]) (ws' := nC E a (t 0) sn (va_up (va_up B 2 (flS (B 2) i)) 5 (flO T (B 2) (B 5) i)) ++ (kC (a 1) kp km ku ++ tl)) (k' := 0) (n' := 0) rfl rfl rfl rfl rfl ?_
            refine q_istore_n F (lv' := [(3, .int (tE T i)), (0, .ref (a 0)), (1, .int (flA T (B 2) i)), (2, .int (nI i))]) dX5_fall_34 (by decide) rfl ?_
            refine q_aload_n F 1 dX5_fall_35 rfl ?_
            refine q_get F (ci := 5) (j := 5) (List.mem_append_left _ (List.mem_of_getElem? (i := 0) rfl)) rfl hi5 (by decide) hf28_5 rfl rfl dX5_fall_36 ?_
            refine q_iload_n F 3 dX5_fall_39 rfl ?_
            refine q_dup2 F dX5_fall_40 rfl rfl ?_
            refine q_iald F (List.mem_append_left _ (List.mem_of_getElem? (i := 4) rfl)) i rfl (by omega) (by decide) dX5_fall_41 ?_
            refine q_iload_n F 0 dX5_fall_42 rfl ?_
            refine q_iadd F dX5_fall_43 ?_
            refine q_iast F 4 rfl i rfl (by omega) (by decide) dX5_fall_44 (ws' := nC E a (t 0) sn (va_up (va_up B 2 (flS (B 2) i)) 5 (upd (flO T (B 2) (B 5) i) i ((flO T (B 2) (B 5) i i) + (tE T i)))) ++ (kC (a 1) kp km ku ++ tl)) rfl ?_
            refine q_iload_n F 2 dX5_fall_45 rfl ?_
            refine q_iload_n F 0 dX5_fall_46 rfl ?_
            refine q_iadd F dX5_fall_47 ?_
            refine q_istore_n F (lv' := [(1, .int ((flA T (B 2) i) + (tE T i))), (3, .int (tE T i)), (0, .ref (a 0)), (2, .int (nI i))]) dX5_fall_48 (by decide) rfl ?_
            refine q_aload_n F 2 dX5_fall_49 rfl ?_
            refine q_get F (ci := 5) (j := 2) (List.mem_append_left _ (List.mem_of_getElem? (i := 0) rfl)) rfl hi5 (by decide) hf18_5 rfl rfl dX5_fall_50 ?_
            refine q_iload_n F 3 dX5_fall_53 rfl ?_
            refine q_iconst F dX5_fall_54 (v := nI 0) (by decide) ?_
            refine q_iast F 1 rfl i rfl (by omega) (by decide) dX5_fall_55 (ws' := nC E a (t 0) sn (va_up (va_up B 2 (upd (flS (B 2) i) i (nI 0))) 5 (upd (flO T (B 2) (B 5) i) i ((flO T (B 2) (B 5) i i) + (tE T i)))) ++ (kC (a 1) kp km ku ++ tl)) rfl ?_
            refine q_iinc F 3 (v := nI (i + 1)) (lv' := [(2, .int (nI (i + 1))), (1, .int ((flA T (B 2) i) + (tE T i))), (3, .int (tE T i)), (0, .ref (a 0))]) dX5_fall_56 rfl (nI_1 _) (by decide) rfl ?_
            refine q_goto F (tgt := 4) dX5_fall_59 (by decide) ?_
            refine q_lv [3, 1, 0] (lv' := [(0, .ref (a 0)), (1, .int ((flA T (B 2) i) + (tE T i))), (2, .int (nI (i + 1)))]) rfl ?_
            refine q_perm pf1 ?_
            refine q_perm pf1 ?_
            refine q_to (lv' := [(0, .ref (a 0)), (1, .int (flA T (B 2) (i + 1))), (2, .int (nI (i + 1)))]) (st' := []) (ws' := nC E a (t 0) sn (va_up (va_up B 2 (flS (B 2) (i + 1))) 5 (flO T (B 2) (B 5) (i + 1))) ++ (kC (a 1) kp km ku ++ tl)) (cE (vE (rfl)) (cE (vE (congrArg Value.int (by first | rfl | simp [flA, slp, *]))) (cE (vE (rfl)) rfl))) rfl (by first | rfl | simp [flS, flO, slp, *]) ?_
            exact ih_4 (i + 1) (by omega) (by omega)
          · skip
            rw [ek] at hm5_0
            have hm6 : (tA T i, (.inr (3, [.int (tP T i), .int (tL T i), .int (tE T i)]) : va_E)) ∈ tl := hm5_0
            refine q_callU F (ci := 3) (As := []) (rest := []) (List.mem_append_right _ (List.mem_append_right _ hm6)) rfl (c_X0_sleepersOut_3 l E _ (tA T i) (tP T i) (tL T i) (tE T i)  (List.mem_append_right _ (List.mem_append_right _ hm6))) (List.Perm.refl _) gX5_fall_X0_sleepersOut_u98X3 rfl rfl rfl rfl hd_X0_sleepersOut_U ⟨by decide, by decide⟩ rfl (Nat.le_of_ble_eq_true rfl) dX5_fall_31 ⟨by decide, by decide⟩ (fun v_ w_ hvw => ?_)
            rw [hvw.1, hvw.2]
            clear hvw
            refine q_at (pc' := 34) (st' := [.int (tE T i)]) (ws' := nC E a (t 0) sn (va_up (va_up B 2 (flS (B 2) i)) 5 (flO T (B 2) (B 5) i)) ++ (kC (a 1) kp km ku ++ tl)) (k' := 0) (n' := 0) rfl rfl rfl rfl rfl ?_
            refine q_istore_n F (lv' := [(3, .int (tE T i)), (0, .ref (a 0)), (1, .int (flA T (B 2) i)), (2, .int (nI i))]) dX5_fall_34 (by decide) rfl ?_
            refine q_aload_n F 1 dX5_fall_35 rfl ?_
            refine q_get F (ci := 5) (j := 5) (List.mem_append_left _ (List.mem_of_getElem? (i := 0) rfl)) rfl hi5 (by decide) hf28_5 rfl rfl dX5_fall_36 ?_
            refine q_iload_n F 3 dX5_fall_39 rfl ?_
            refine q_dup2 F dX5_fall_40 rfl rfl ?_
            refine q_iald F (List.mem_append_left _ (List.mem_of_getElem? (i := 4) rfl)) i rfl (by omega) (by decide) dX5_fall_41 ?_
            refine q_iload_n F 0 dX5_fall_42 rfl ?_
            refine q_iadd F dX5_fall_43 ?_
            refine q_iast F 4 rfl i rfl (by omega) (by decide) dX5_fall_44 (ws' := nC E a (t 0) sn (va_up (va_up B 2 (flS (B 2) i)) 5 (upd (flO T (B 2) (B 5) i) i ((flO T (B 2) (B 5) i i) + (tE T i)))) ++ (kC (a 1) kp km ku ++ tl)) rfl ?_
            refine q_iload_n F 2 dX5_fall_45 rfl ?_
            refine q_iload_n F 0 dX5_fall_46 rfl ?_
            refine q_iadd F dX5_fall_47 ?_
            refine q_istore_n F (lv' := [(1, .int ((flA T (B 2) i) + (tE T i))), (3, .int (tE T i)), (0, .ref (a 0)), (2, .int (nI i))]) dX5_fall_48 (by decide) rfl ?_
            refine q_aload_n F 2 dX5_fall_49 rfl ?_
            refine q_get F (ci := 5) (j := 2) (List.mem_append_left _ (List.mem_of_getElem? (i := 0) rfl)) rfl hi5 (by decide) hf18_5 rfl rfl dX5_fall_50 ?_
            refine q_iload_n F 3 dX5_fall_53 rfl ?_
            refine q_iconst F dX5_fall_54 (v := nI 0) (by decide) ?_
            refine q_iast F 1 rfl i rfl (by omega) (by decide) dX5_fall_55 (ws' := nC E a (t 0) sn (va_up (va_up B 2 (upd (flS (B 2) i) i (nI 0))) 5 (upd (flO T (B 2) (B 5) i) i ((flO T (B 2) (B 5) i i) + (tE T i)))) ++ (kC (a 1) kp km ku ++ tl)) rfl ?_
            refine q_iinc F 3 (v := nI (i + 1)) (lv' := [(2, .int (nI (i + 1))), (1, .int ((flA T (B 2) i) + (tE T i))), (3, .int (tE T i)), (0, .ref (a 0))]) dX5_fall_56 rfl (nI_1 _) (by decide) rfl ?_
            refine q_goto F (tgt := 4) dX5_fall_59 (by decide) ?_
            refine q_lv [3, 1, 0] (lv' := [(0, .ref (a 0)), (1, .int ((flA T (B 2) i) + (tE T i))), (2, .int (nI (i + 1)))]) rfl ?_
            refine q_perm pf1 ?_
            refine q_perm pf1 ?_
            refine q_to (lv' := [(0, .ref (a 0)), (1, .int (flA T (B 2) (i + 1))), (2, .int (nI (i + 1)))]) (st' := []) (ws' := nC E a (t 0) sn (va_up (va_up B 2 (flS (B 2) (i + 1))) 5 (flO T (B 2) (B 5) (i + 1))) ++ (kC (a 1) kp km ku ++ tl)) (cE (vE (rfl)) (cE (vE (congrArg Value.int (by first | rfl | simp [flA, slp, *]))) (cE (vE (rfl)) rfl))) rfl (by first | rfl | simp [flS, flO, slp, *]) ?_
            exact ih_4 (i + 1) (by omega) (by omega)
  refine q_lv [2, 1, 0] (lv' := [(0, .ref (a 0)), (1, .int (nI 0)), (2, .int (nI 0))]) rfl ?_
  refine q_perm pf1 ?_
  refine q_perm pf1 ?_
  refine q_to (lv' := [(0, .ref (a 0)), (1, .int (flA T (B 2) 0)), (2, .int (nI 0))]) (st' := []) (ws' := nC E a (t 0) sn (va_up (va_up B 2 (flS (B 2) 0)) 5 (flO T (B 2) (B 5) 0)) ++ (kC (a 1) kp km ku ++ tl)) (cE (vE (rfl)) (cE (vE (congrArg Value.int (by first | rfl | simp [flA, slp, *]))) (cE (vE (rfl)) rfl))) rfl (by rfl) ?_
  exact lb4 (tN T - 0 + 1) 0 (by omega) (Nat.lt_succ_self _)

set_option maxHeartbeats 4000000 in
set_option maxRecDepth 100000 in
theorem c_X5_begin (l : Launch) (E : gEnv) (a t : Nat → Nat) (T : gTown) (sn : Int32) (B : Nat → Nat → Int32) (kp km ku : Int32) (tl : va_W) (hT : isIn (tC E t T) tl) (hH : isHs T tl) (hn : tN T ≤ 6) : Cn l E yX5_begin wsX5_begin (rmL 1 0 0) [.ref (a 0)] (nC E a (t 0) sn B ++ (kC (a 1) kp km ku ++ tl)) 0 0 (fun v w => v = none ∧ w = nC E a (t 0) (nI 0) (bgB B) ++ (kC (a 1) (nI 0) (nI 0) (nI 0) ++ tl)) := by
  refine Cn.of (own := RX5) (cc := cX5_begin) (maxL := 2) (ret := none) (lv := [(0, .ref (a 0))]) (by decide) rfl rfl (Nat.le_of_ble_eq_true rfl) rfl ?_
  intro p_ e_ s_ m_ args_ below_ meth_ c_ A_ P_ hp_ F hr_ hnm_
  have hf12_5 : Cond.fieldLink RX5 12 "KeyOnStreet$Night" (TX5 1).2.1 (TX5 1).2.2.1 ∈ wsX5_begin := by decide +kernel
  have hi5 : ∀ w ∈ u_ws RX5 TX5 10, w ∈ wsX5_begin := by decide +kernel
  have hd_X2_put : yX2_put.cls = RX2 ∧ yX2_put.cls ≠ "java/lang/invoke/MethodHandle" ∧ yX2_put.cls ≠ "java/lang/invoke/VarHandle" ∧ (parseMethodDescriptor yX2_put.desc).map (fun d => d.parameters.length) = some 3 := by decide +kernel
  have hf49_5 : Cond.fieldLink RX5 49 "KeyOnStreet$Night" (TX5 9).2.1 (TX5 9).2.2.1 ∈ wsX5_begin := by decide +kernel
  have hf18_5 : Cond.fieldLink RX5 18 "KeyOnStreet$Night" (TX5 2).2.1 (TX5 2).2.2.1 ∈ wsX5_begin := by decide +kernel
  have hf22_5 : Cond.fieldLink RX5 22 "KeyOnStreet$Night" (TX5 3).2.1 (TX5 3).2.2.1 ∈ wsX5_begin := by decide +kernel
  have hf25_5 : Cond.fieldLink RX5 25 "KeyOnStreet$Night" (TX5 4).2.1 (TX5 4).2.2.1 ∈ wsX5_begin := by decide +kernel
  have hf28_5 : Cond.fieldLink RX5 28 "KeyOnStreet$Night" (TX5 5).2.1 (TX5 5).2.2.1 ∈ wsX5_begin := by decide +kernel
  refine q_iconst F dX5_begin_0 (v := nI 0) (by decide) ?_
  refine q_istore_n F (lv' := [(1, .int (nI 0)), (0, .ref (a 0))]) dX5_begin_1 (by decide) rfl ?_
  have lb2 : ∀ (fu : Nat) (i : Nat) (hi : i ≤ 6), 6 - i < fu → gW p_ l e_ (rmL 1 0 0) s_ m_ args_ below_ meth_ c_ E A_ 2 (MQ below_ (gQ E A_ P_) args_ s_ 0 0 A_) 2 [(0, .ref (a 0)), (1, .int (nI i))] [] (nC E a (t 0) sn (va_up (va_up (va_up (va_up B 2 (filc (-1) (B 2) i)) 3 (filc (-1) (B 3) i)) 4 (filc (nI 0) (B 4) i)) 5 (filc (nI 0) (B 5) i)) ++ (kC (a 1) kp km ku ++ tl)) 0 0 := by
    intro fu_2
    induction fu_2 with
    | zero => intro i hi hfu; exact absurd hfu (Nat.not_lt_zero _)
    | succ fu_2 ih_2 =>
      intro i hi hfu_2
      refine q_iload_n F 1 dX5_begin_2 rfl ?_
      refine q_bipush F dX5_begin_3 (v := nI 6) (by decide) ?_
      refine q_icmp_ge F (tgt := 42) dX5_begin_5 (by decide) (fun h_5 => ?_) (fun h_5 => ?_)
      · skip
        have hn_5 : i ≥ 6 := nf_ge_t (by omega) (by omega) h_5
        obtain rfl : i = 6 := by omega
        refine q_nB (bgB B) (by intro i h1 h2 j hj; rcases (show i = 2 ∨ i = 3 ∨ i = 4 ∨ i = 5 ∨ i = 6 ∨ i = 7 ∨ i = 8 by omega) with rfl | rfl | rfl | rfl | rfl | rfl | rfl <;> simp [bgB, va_up, filc, hj]) ?_
        refine q_aload_n F 0 dX5_begin_42 rfl ?_
        refine q_get F (ci := 5) (j := 1) (List.mem_append_left _ (List.mem_of_getElem? (i := 0) rfl)) rfl hi5 (by decide) hf12_5 rfl rfl dX5_begin_43 ?_
        refine q_iconst F dX5_begin_46 (v := nI 0) (by decide) ?_
        refine q_iconst F dX5_begin_47 (v := nI 0) (by decide) ?_
        refine q_iconst F dX5_begin_48 (v := nI 0) (by decide) ?_
        refine q_perm pf1 ?_
        refine q_callV F (ci := 2) (As := [.int (nI 0), .int (nI 0), .int (nI 0)]) (rest := []) (List.mem_append_left _ (List.mem_of_getElem? (i := 0) rfl)) rfl (c_X2_put l E (a 1) kp km ku (nI 0) (nI 0) (nI 0) _) (List.Perm.refl _) gX5_begin_X2_put rfl rfl rfl hd_X2_put ⟨by decide, by decide⟩ rfl (Nat.le_of_ble_eq_true rfl) dX5_begin_49 ⟨by decide, by decide⟩ (fun v_ w_ hvw => ?_)
        rw [hvw.1, hvw.2]
        clear hvw
        refine q_at (pc' := 52) (st' := []) (ws' := kC (a 1) (nI 0) (nI 0) (nI 0) ++ (nC E a (t 0) sn (bgB B) ++ tl)) (k' := 0) (n' := 0) rfl rfl rfl rfl rfl ?_
        refine q_aload_n F 0 dX5_begin_52 rfl ?_
        refine q_iconst F dX5_begin_53 (v := nI 0) (by decide) ?_
        refine q_perm pf1 ?_
        refine q_put F (j := 9) 0 rfl rfl hi5 tyX5 tyX5_ok nmX5 (by decide) hf49_5 rfl rfl rfl rfl (Nat.le_of_ble_eq_true rfl) dX5_begin_54 (ws' := nC E a (t 0) (nI 0) (bgB B) ++ (kC (a 1) (nI 0) (nI 0) (nI 0) ++ tl)) rfl ?_
        refine q_perm pf1 ?_
        refine q_perm pf1 ?_
        refine q_vret F hr_ dX5_begin_57 (hp_ _ _ ⟨rfl, ?_⟩)
        rfl
      · skip
        have hn_5 : i < 6 := nf_ge_f (by omega) (by omega) h_5
        refine q_aload_n F 0 dX5_begin_8 rfl ?_
        refine q_get F (ci := 5) (j := 2) (List.mem_append_left _ (List.mem_of_getElem? (i := 0) rfl)) rfl hi5 (by decide) hf18_5 rfl rfl dX5_begin_9 ?_
        refine q_iload_n F 1 dX5_begin_12 rfl ?_
        refine q_iconst F dX5_begin_13 (v := (-1)) (by decide) ?_
        refine q_iast F 1 rfl i rfl (by omega) (by decide) dX5_begin_14 (ws' := nC E a (t 0) sn (va_up (va_up (va_up (va_up B 2 (upd (filc (-1) (B 2) i) i (-1))) 3 (filc (-1) (B 3) i)) 4 (filc (nI 0) (B 4) i)) 5 (filc (nI 0) (B 5) i)) ++ (kC (a 1) kp km ku ++ tl)) rfl ?_
        refine q_aload_n F 0 dX5_begin_15 rfl ?_
        refine q_get F (ci := 5) (j := 3) (List.mem_append_left _ (List.mem_of_getElem? (i := 0) rfl)) rfl hi5 (by decide) hf22_5 rfl rfl dX5_begin_16 ?_
        refine q_iload_n F 1 dX5_begin_19 rfl ?_
        refine q_iconst F dX5_begin_20 (v := (-1)) (by decide) ?_
        refine q_iast F 2 rfl i rfl (by omega) (by decide) dX5_begin_21 (ws' := nC E a (t 0) sn (va_up (va_up (va_up (va_up B 2 (upd (filc (-1) (B 2) i) i (-1))) 3 (upd (filc (-1) (B 3) i) i (-1))) 4 (filc (nI 0) (B 4) i)) 5 (filc (nI 0) (B 5) i)) ++ (kC (a 1) kp km ku ++ tl)) rfl ?_
        refine q_aload_n F 0 dX5_begin_22 rfl ?_
        refine q_get F (ci := 5) (j := 4) (List.mem_append_left _ (List.mem_of_getElem? (i := 0) rfl)) rfl hi5 (by decide) hf25_5 rfl rfl dX5_begin_23 ?_
        refine q_iload_n F 1 dX5_begin_26 rfl ?_
        refine q_iconst F dX5_begin_27 (v := nI 0) (by decide) ?_
        refine q_iast F 3 rfl i rfl (by omega) (by decide) dX5_begin_28 (ws' := nC E a (t 0) sn (va_up (va_up (va_up (va_up B 2 (upd (filc (-1) (B 2) i) i (-1))) 3 (upd (filc (-1) (B 3) i) i (-1))) 4 (upd (filc (nI 0) (B 4) i) i (nI 0))) 5 (filc (nI 0) (B 5) i)) ++ (kC (a 1) kp km ku ++ tl)) rfl ?_
        refine q_aload_n F 0 dX5_begin_29 rfl ?_
        refine q_get F (ci := 5) (j := 5) (List.mem_append_left _ (List.mem_of_getElem? (i := 0) rfl)) rfl hi5 (by decide) hf28_5 rfl rfl dX5_begin_30 ?_
        refine q_iload_n F 1 dX5_begin_33 rfl ?_
        refine q_iconst F dX5_begin_34 (v := nI 0) (by decide) ?_
        refine q_iast F 4 rfl i rfl (by omega) (by decide) dX5_begin_35 (ws' := nC E a (t 0) sn (va_up (va_up (va_up (va_up B 2 (upd (filc (-1) (B 2) i) i (-1))) 3 (upd (filc (-1) (B 3) i) i (-1))) 4 (upd (filc (nI 0) (B 4) i) i (nI 0))) 5 (upd (filc (nI 0) (B 5) i) i (nI 0))) ++ (kC (a 1) kp km ku ++ tl)) rfl ?_
        refine q_iinc F 1 (v := nI (i + 1)) (lv' := [(1, .int (nI (i + 1))), (0, .ref (a 0))]) dX5_begin_36 rfl (nI_1 _) (by decide) rfl ?_
        refine q_goto F (tgt := 2) dX5_begin_39 (by decide) ?_
        refine q_lv [1, 0] (lv' := [(0, .ref (a 0)), (1, .int (nI (i + 1)))]) rfl ?_
        refine q_perm pf1 ?_
        refine q_perm pf1 ?_
        refine q_to (lv' := [(0, .ref (a 0)), (1, .int (nI (i + 1)))]) (st' := []) (ws' := nC E a (t 0) sn (va_up (va_up (va_up (va_up B 2 (filc (-1) (B 2) (i + 1))) 3 (filc (-1) (B 3) (i + 1))) 4 (filc (nI 0) (B 4) (i + 1))) 5 (filc (nI 0) (B 5) (i + 1))) ++ (kC (a 1) kp km ku ++ tl)) rfl rfl (by simp only [filc_s]) ?_
        exact ih_2 (i + 1) (by omega) (by omega)
  refine q_lv [1, 0] (lv' := [(0, .ref (a 0)), (1, .int (nI 0))]) rfl ?_
  refine q_perm pf1 ?_
  refine q_perm pf1 ?_
  refine q_to (lv' := [(0, .ref (a 0)), (1, .int (nI 0))]) (st' := []) (ws' := nC E a (t 0) sn (va_up (va_up (va_up (va_up B 2 (filc (-1) (B 2) 0)) 3 (filc (-1) (B 3) 0)) 4 (filc (nI 0) (B 4) 0)) 5 (filc (nI 0) (B 5) 0)) ++ (kC (a 1) kp km ku ++ tl)) rfl rfl (by simp only [filc_0]; rfl) ?_
  exact lb2 (6 - 0 + 1) 0 (by omega) (Nat.lt_succ_self _)

set_option maxHeartbeats 4000000 in
set_option maxRecDepth 100000 in
theorem c_X5_nobodyWasIn (l : Launch) (E : gEnv) (a t : Nat → Nat) (T : gTown) (sn : Int32) (B : Nat → Nat → Int32) (kp km ku : Int32) (tl : va_W) (hT : isIn (tC E t T) tl) (hH : isHs T tl) (hn : tN T ≤ 6) : Cn l E yX5_nobodyWasIn wsX5_nobodyWasIn (rmL 0 0 0) [.ref (a 0)] (nC E a (t 0) sn B ++ (kC (a 1) kp km ku ++ tl)) 0 0 (fun v w => v = none ∧ w = nC E a (t 0) sn (va_up B 3 (fun _ => (-1))) ++ (kC (a 1) kp km ku ++ tl)) := by
  refine Cn.of (own := RX5) (cc := cX5_nobodyWasIn) (maxL := 2) (ret := none) (lv := [(0, .ref (a 0))]) (by decide) rfl rfl (Nat.le_of_ble_eq_true rfl) rfl ?_
  intro p_ e_ s_ m_ args_ below_ meth_ c_ A_ P_ hp_ F hr_ hnm_
  have hf22_5 : Cond.fieldLink RX5 22 "KeyOnStreet$Night" (TX5 3).2.1 (TX5 3).2.2.1 ∈ wsX5_nobodyWasIn := by decide +kernel
  have hi5 : ∀ w ∈ u_ws RX5 TX5 10, w ∈ wsX5_nobodyWasIn := by decide +kernel
  refine q_iconst F dX5_nobodyWasIn_0 (v := nI 0) (by decide) ?_
  refine q_istore_n F (lv' := [(1, .int (nI 0)), (0, .ref (a 0))]) dX5_nobodyWasIn_1 (by decide) rfl ?_
  have lb2 : ∀ (fu : Nat) (i : Nat) (hi : i ≤ 6), 6 - i < fu → gW p_ l e_ (rmL 0 0 0) s_ m_ args_ below_ meth_ c_ E A_ 2 (MQ below_ (gQ E A_ P_) args_ s_ 0 0 A_) 2 [(0, .ref (a 0)), (1, .int (nI i))] [] (nC E a (t 0) sn (va_up B 3 (filc (-1) (B 3) i)) ++ (kC (a 1) kp km ku ++ tl)) 0 0 := by
    intro fu_2
    induction fu_2 with
    | zero => intro i hi hfu; exact absurd hfu (Nat.not_lt_zero _)
    | succ fu_2 ih_2 =>
      intro i hi hfu_2
      refine q_iload_n F 1 dX5_nobodyWasIn_2 rfl ?_
      refine q_bipush F dX5_nobodyWasIn_3 (v := nI 6) (by decide) ?_
      refine q_icmp_ge F (tgt := 21) dX5_nobodyWasIn_5 (by decide) (fun h_5 => ?_) (fun h_5 => ?_)
      · skip
        have hn_5 : i ≥ 6 := nf_ge_t (by omega) (by omega) h_5
        obtain rfl : i = 6 := by omega
        refine q_nB (va_up B 3 (fun _ => (-1))) (by intro i h1 h2 j hj; rcases (show i = 2 ∨ i = 3 ∨ i = 4 ∨ i = 5 ∨ i = 6 ∨ i = 7 ∨ i = 8 by omega) with rfl | rfl | rfl | rfl | rfl | rfl | rfl <;> simp [va_up, filc, hj]) ?_
        refine q_perm pf1 ?_
        refine q_perm pf1 ?_
        refine q_vret F hr_ dX5_nobodyWasIn_21 (hp_ _ _ ⟨rfl, ?_⟩)
        rfl
      · skip
        have hn_5 : i < 6 := nf_ge_f (by omega) (by omega) h_5
        refine q_aload_n F 0 dX5_nobodyWasIn_8 rfl ?_
        refine q_get F (ci := 5) (j := 3) (List.mem_append_left _ (List.mem_of_getElem? (i := 0) rfl)) rfl hi5 (by decide) hf22_5 rfl rfl dX5_nobodyWasIn_9 ?_
        refine q_iload_n F 1 dX5_nobodyWasIn_12 rfl ?_
        refine q_iconst F dX5_nobodyWasIn_13 (v := (-1)) (by decide) ?_
        refine q_iast F 2 rfl i rfl (by omega) (by decide) dX5_nobodyWasIn_14 (ws' := nC E a (t 0) sn (va_up B 3 (upd (filc (-1) (B 3) i) i (-1))) ++ (kC (a 1) kp km ku ++ tl)) rfl ?_
        refine q_iinc F 1 (v := nI (i + 1)) (lv' := [(1, .int (nI (i + 1))), (0, .ref (a 0))]) dX5_nobodyWasIn_15 rfl (nI_1 _) (by decide) rfl ?_
        refine q_goto F (tgt := 2) dX5_nobodyWasIn_18 (by decide) ?_
        refine q_lv [1, 0] (lv' := [(0, .ref (a 0)), (1, .int (nI (i + 1)))]) rfl ?_
        refine q_perm pf1 ?_
        refine q_perm pf1 ?_
        refine q_to (lv' := [(0, .ref (a 0)), (1, .int (nI (i + 1)))]) (st' := []) (ws' := nC E a (t 0) sn (va_up B 3 (filc (-1) (B 3) (i + 1))) ++ (kC (a 1) kp km ku ++ tl)) rfl rfl (by simp only [filc_s]) ?_
        exact ih_2 (i + 1) (by omega) (by omega)
  refine q_lv [1, 0] (lv' := [(0, .ref (a 0)), (1, .int (nI 0))]) rfl ?_
  refine q_perm pf1 ?_
  refine q_perm pf1 ?_
  refine q_to (lv' := [(0, .ref (a 0)), (1, .int (nI 0))]) (st' := []) (ws' := nC E a (t 0) sn (va_up B 3 (filc (-1) (B 3) 0)) ++ (kC (a 1) kp km ku ++ tl)) rfl rfl (by simp only [filc_0]; rfl) ?_
  exact lb2 (6 - 0 + 1) 0 (by omega) (Nat.lt_succ_self _)

set_option maxHeartbeats 4000000 in
set_option maxRecDepth 100000 in
theorem c_X5_copyFrom (l : Launch) (E : gEnv) (a t : Nat → Nat) (T : gTown) (sn : Int32) (B : Nat → Nat → Int32) (kp km ku : Int32) (tl : va_W) (hT : isIn (tC E t T) tl) (hH : isHs T tl) (hn : tN T ≤ 6) (o : Nat → Nat) (t2 : Nat) (sn2 : Int32) (B2 : Nat → Nat → Int32) (kp2 km2 ku2 : Int32) (hO : isIn (nC E o t2 sn2 B2) tl) (hOk : isIn (kC (o 1) kp2 km2 ku2) tl) (hz : okZ (B2 8)) : Cn l E yX5_copyFrom wsX5_copyFrom (rmL 2 0 0) [.ref (a 0), .ref (o 0)] (nC E a (t 0) sn B ++ (kC (a 1) kp km ku ++ tl)) 0 0 (fun v w => v = none ∧ w = nC E a (t 0) sn2 B2 ++ (kC (a 1) kp2 km2 ku2 ++ tl)) := by
  refine Cn.of (own := RX5) (cc := cX5_copyFrom) (maxL := 3) (ret := none) (lv := [(0, .ref (a 0)), (1, .ref (o 0))]) (by decide) rfl rfl (Nat.le_of_ble_eq_true rfl) rfl ?_
  intro p_ e_ s_ m_ args_ below_ meth_ c_ A_ P_ hp_ F hr_ hnm_
  have hf49_5 : Cond.fieldLink RX5 49 "KeyOnStreet$Night" (TX5 9).2.1 (TX5 9).2.2.1 ∈ wsX5_copyFrom := by decide +kernel
  have hi5 : ∀ w ∈ u_ws RX5 TX5 10, w ∈ wsX5_copyFrom := by decide +kernel
  have hf12_5 : Cond.fieldLink RX5 12 "KeyOnStreet$Night" (TX5 1).2.1 (TX5 1).2.2.1 ∈ wsX5_copyFrom := by decide +kernel
  have hd_X2_copyFrom : yX2_copyFrom.cls = RX2 ∧ yX2_copyFrom.cls ≠ "java/lang/invoke/MethodHandle" ∧ yX2_copyFrom.cls ≠ "java/lang/invoke/VarHandle" ∧ (parseMethodDescriptor yX2_copyFrom.desc).map (fun d => d.parameters.length) = some 1 := by decide +kernel
  have hf31_5 : Cond.fieldLink RX5 31 "KeyOnStreet$Night" (TX5 6).2.1 (TX5 6).2.2.1 ∈ wsX5_copyFrom := by decide +kernel
  have hf34_5 : Cond.fieldLink RX5 34 "KeyOnStreet$Night" (TX5 7).2.1 (TX5 7).2.2.1 ∈ wsX5_copyFrom := by decide +kernel
  have hf37_5 : Cond.fieldLink RX5 37 "KeyOnStreet$Night" (TX5 8).2.1 (TX5 8).2.2.1 ∈ wsX5_copyFrom := by decide +kernel
  have hf18_5 : Cond.fieldLink RX5 18 "KeyOnStreet$Night" (TX5 2).2.1 (TX5 2).2.2.1 ∈ wsX5_copyFrom := by decide +kernel
  have hf22_5 : Cond.fieldLink RX5 22 "KeyOnStreet$Night" (TX5 3).2.1 (TX5 3).2.2.1 ∈ wsX5_copyFrom := by decide +kernel
  have hf25_5 : Cond.fieldLink RX5 25 "KeyOnStreet$Night" (TX5 4).2.1 (TX5 4).2.2.1 ∈ wsX5_copyFrom := by decide +kernel
  have hf28_5 : Cond.fieldLink RX5 28 "KeyOnStreet$Night" (TX5 5).2.1 (TX5 5).2.2.1 ∈ wsX5_copyFrom := by decide +kernel
  refine q_iconst F dX5_copyFrom_0 (v := nI 0) (by decide) ?_
  refine q_istore_n F (lv' := [(2, .int (nI 0)), (0, .ref (a 0)), (1, .ref (o 0))]) dX5_copyFrom_1 (by decide) rfl ?_
  have lb2 : ∀ (fu : Nat) (i : Nat) (hi : i ≤ 6), 6 - i < fu → gW p_ l e_ (rmL 2 0 0) s_ m_ args_ below_ meth_ c_ E A_ 3 (MQ below_ (gQ E A_ P_) args_ s_ 0 0 A_) 2 [(0, .ref (a 0)), (1, .ref (o 0)), (2, .int (nI i))] [] (nC E a (t 0) sn (va_up (va_up (va_up (va_up B 2 (fil (B2 2) (B 2) i)) 3 (fil (B2 3) (B 3) i)) 4 (fil (B2 4) (B 4) i)) 5 (fil (B2 5) (B 5) i)) ++ (kC (a 1) kp km ku ++ tl)) 0 0 := by
    intro fu_2
    induction fu_2 with
    | zero => intro i hi hfu; exact absurd hfu (Nat.not_lt_zero _)
    | succ fu_2 ih_2 =>
      intro i hi hfu_2
      refine q_iload_n F 2 dX5_copyFrom_2 rfl ?_
      refine q_bipush F dX5_copyFrom_3 (v := nI 6) (by decide) ?_
      refine q_icmp_ge F (tgt := 62) dX5_copyFrom_5 (by decide) (fun h_5 => ?_) (fun h_5 => ?_)
      · skip
        have hn_5 : i ≥ 6 := nf_ge_t (by omega) (by omega) h_5
        obtain rfl : i = 6 := by omega
        refine q_iconst F dX5_copyFrom_62 (v := nI 0) (by decide) ?_
        refine q_istore_n F (lv' := [(2, .int (nI 0)), (0, .ref (a 0)), (1, .ref (o 0))]) dX5_copyFrom_63 (by decide) rfl ?_
        have lb64 : ∀ (fu : Nat) (i : Nat) (hi : i ≤ 6), 6 - i < fu → gW p_ l e_ (rmL 2 0 0) s_ m_ args_ below_ meth_ c_ E A_ 3 (MQ below_ (gQ E A_ P_) args_ s_ 0 0 A_) 64 [(0, .ref (a 0)), (1, .ref (o 0)), (2, .int (nI i))] [] (nC E a (t 0) sn (va_up (va_up (va_up (va_up (va_up (va_up (va_up B 2 (fil (B2 2) (B 2) 6)) 3 (fil (B2 3) (B 3) 6)) 4 (fil (B2 4) (B 4) 6)) 5 (fil (B2 5) (B 5) 6)) 6 (fil (B2 6) (B 6) i)) 7 (fil (B2 7) (B 7) i)) 8 (fil (B2 8) (B 8) i)) ++ (kC (a 1) kp km ku ++ tl)) 0 0 := by
          intro fu_64
          induction fu_64 with
          | zero => intro i hi hfu; exact absurd hfu (Nat.not_lt_zero _)
          | succ fu_64 ih_64 =>
            intro i hi hfu_64
            refine q_iload_n F 2 dX5_copyFrom_64 rfl ?_
            refine q_bipush F dX5_copyFrom_65 (v := nI 6) (by decide) ?_
            refine q_icmp_ge F (tgt := 112) dX5_copyFrom_67 (by decide) (fun h_67 => ?_) (fun h_67 => ?_)
            · skip
              have hn_67 : i ≥ 6 := nf_ge_t (by omega) (by omega) h_67
              obtain rfl : i = 6 := by omega
              refine q_nB B2 (by intro i h1 h2 j hj; rcases (show i = 2 ∨ i = 3 ∨ i = 4 ∨ i = 5 ∨ i = 6 ∨ i = 7 ∨ i = 8 by omega) with rfl | rfl | rfl | rfl | rfl | rfl | rfl <;> simp [va_up, fil, hj]) ?_
              refine q_aload_n F 0 dX5_copyFrom_112 rfl ?_
              refine q_aload_n F 1 dX5_copyFrom_113 rfl ?_
              refine q_get F (ci := 5) (j := 9) (List.mem_append_right _ (List.mem_append_right _ (hO _ (List.mem_of_getElem? (i := 0) rfl)))) rfl hi5 (by decide) hf49_5 rfl rfl dX5_copyFrom_114 ?_
              refine q_put F (j := 9) 0 rfl rfl hi5 tyX5 tyX5_ok nmX5 (by decide) hf49_5 rfl rfl rfl rfl (Nat.le_of_ble_eq_true rfl) dX5_copyFrom_117 (ws' := nC E a (t 0) sn2 B2 ++ (kC (a 1) kp km ku ++ tl)) rfl ?_
              refine q_aload_n F 0 dX5_copyFrom_120 rfl ?_
              refine q_get F (ci := 5) (j := 1) (List.mem_append_left _ (List.mem_of_getElem? (i := 0) rfl)) rfl hi5 (by decide) hf12_5 rfl rfl dX5_copyFrom_121 ?_
              refine q_aload_n F 1 dX5_copyFrom_124 rfl ?_
              refine q_get F (ci := 5) (j := 1) (List.mem_append_right _ (List.mem_append_right _ (hO _ (List.mem_of_getElem? (i := 0) rfl)))) rfl hi5 (by decide) hf12_5 rfl rfl dX5_copyFrom_125 ?_
              refine q_perm pf1 ?_
              refine q_callV F (ci := 2) (As := [.ref (o 1)]) (rest := []) (List.mem_append_left _ (List.mem_of_getElem? (i := 0) rfl)) rfl (c_X2_copyFrom l E (a 1) (o 1) kp km ku kp2 km2 ku2 _ (List.mem_append_right _ (hOk _ (List.mem_of_getElem? (i := 0) rfl)))) (List.Perm.refl _) gX5_copyFrom_X2_copyFrom rfl rfl rfl hd_X2_copyFrom ⟨by decide, by decide⟩ rfl (Nat.le_of_ble_eq_true rfl) dX5_copyFrom_128 ⟨by decide, by decide⟩ (fun v_ w_ hvw => ?_)
              rw [hvw.1, hvw.2]
              clear hvw
              refine q_at (pc' := 131) (st' := []) (ws' := kC (a 1) kp2 km2 ku2 ++ (nC E a (t 0) sn2 B2 ++ tl)) (k' := 0) (n' := 0) rfl rfl rfl rfl rfl ?_
              refine q_perm pf1 ?_
              refine q_vret F hr_ dX5_copyFrom_131 (hp_ _ _ ⟨rfl, ?_⟩)
              rfl
            · skip
              have hn_67 : i < 6 := nf_ge_f (by omega) (by omega) h_67
              refine q_aload_n F 0 dX5_copyFrom_70 rfl ?_
              refine q_get F (ci := 5) (j := 6) (List.mem_append_left _ (List.mem_of_getElem? (i := 0) rfl)) rfl hi5 (by decide) hf31_5 rfl rfl dX5_copyFrom_71 ?_
              refine q_iload_n F 2 dX5_copyFrom_74 rfl ?_
              refine q_aload_n F 1 dX5_copyFrom_75 rfl ?_
              refine q_get F (ci := 5) (j := 6) (List.mem_append_right _ (List.mem_append_right _ (hO _ (List.mem_of_getElem? (i := 0) rfl)))) rfl hi5 (by decide) hf31_5 rfl rfl dX5_copyFrom_76 ?_
              refine q_iload_n F 2 dX5_copyFrom_79 rfl ?_
              refine q_iald F (List.mem_append_right _ (List.mem_append_right _ (hO _ (List.mem_of_getElem? (i := 5) rfl)))) i rfl (by omega) (by decide) dX5_copyFrom_80 ?_
              refine q_iast F 5 rfl i rfl (by omega) (by decide) dX5_copyFrom_81 (ws' := nC E a (t 0) sn (va_up (va_up (va_up (va_up (va_up (va_up (va_up B 2 (fil (B2 2) (B 2) 6)) 3 (fil (B2 3) (B 3) 6)) 4 (fil (B2 4) (B 4) 6)) 5 (fil (B2 5) (B 5) 6)) 6 (upd (fil (B2 6) (B 6) i) i (B2 6 i))) 7 (fil (B2 7) (B 7) i)) 8 (fil (B2 8) (B 8) i)) ++ (kC (a 1) kp km ku ++ tl)) rfl ?_
              refine q_aload_n F 0 dX5_copyFrom_82 rfl ?_
              refine q_get F (ci := 5) (j := 7) (List.mem_append_left _ (List.mem_of_getElem? (i := 0) rfl)) rfl hi5 (by decide) hf34_5 rfl rfl dX5_copyFrom_83 ?_
              refine q_iload_n F 2 dX5_copyFrom_86 rfl ?_
              refine q_aload_n F 1 dX5_copyFrom_87 rfl ?_
              refine q_get F (ci := 5) (j := 7) (List.mem_append_right _ (List.mem_append_right _ (hO _ (List.mem_of_getElem? (i := 0) rfl)))) rfl hi5 (by decide) hf34_5 rfl rfl dX5_copyFrom_88 ?_
              refine q_iload_n F 2 dX5_copyFrom_91 rfl ?_
              refine q_iald F (List.mem_append_right _ (List.mem_append_right _ (hO _ (List.mem_of_getElem? (i := 6) rfl)))) i rfl (by omega) (by decide) dX5_copyFrom_92 ?_
              refine q_iast F 6 rfl i rfl (by omega) (by decide) dX5_copyFrom_93 (ws' := nC E a (t 0) sn (va_up (va_up (va_up (va_up (va_up (va_up (va_up B 2 (fil (B2 2) (B 2) 6)) 3 (fil (B2 3) (B 3) 6)) 4 (fil (B2 4) (B 4) 6)) 5 (fil (B2 5) (B 5) 6)) 6 (upd (fil (B2 6) (B 6) i) i (B2 6 i))) 7 (upd (fil (B2 7) (B 7) i) i (B2 7 i))) 8 (fil (B2 8) (B 8) i)) ++ (kC (a 1) kp km ku ++ tl)) rfl ?_
              refine q_aload_n F 0 dX5_copyFrom_94 rfl ?_
              refine q_get F (ci := 5) (j := 8) (List.mem_append_left _ (List.mem_of_getElem? (i := 0) rfl)) rfl hi5 (by decide) hf37_5 rfl rfl dX5_copyFrom_95 ?_
              refine q_iload_n F 2 dX5_copyFrom_98 rfl ?_
              refine q_aload_n F 1 dX5_copyFrom_99 rfl ?_
              refine q_get F (ci := 5) (j := 8) (List.mem_append_right _ (List.mem_append_right _ (hO _ (List.mem_of_getElem? (i := 0) rfl)))) rfl hi5 (by decide) hf37_5 rfl rfl dX5_copyFrom_100 ?_
              refine q_iload_n F 2 dX5_copyFrom_103 rfl ?_
              refine q_zald F (List.mem_append_right _ (List.mem_append_right _ (hO _ (List.mem_of_getElem? (i := 7) rfl)))) i rfl (by omega) (by decide) dX5_copyFrom_104 ?_
              refine q_zast F 7 rfl i rfl (by omega) (by decide) (hz i (by omega)) dX5_copyFrom_105 (ws' := nC E a (t 0) sn (va_up (va_up (va_up (va_up (va_up (va_up (va_up B 2 (fil (B2 2) (B 2) 6)) 3 (fil (B2 3) (B 3) 6)) 4 (fil (B2 4) (B 4) 6)) 5 (fil (B2 5) (B 5) 6)) 6 (upd (fil (B2 6) (B 6) i) i (B2 6 i))) 7 (upd (fil (B2 7) (B 7) i) i (B2 7 i))) 8 (upd (fil (B2 8) (B 8) i) i (B2 8 i))) ++ (kC (a 1) kp km ku ++ tl)) rfl ?_
              refine q_iinc F 2 (v := nI (i + 1)) (lv' := [(2, .int (nI (i + 1))), (0, .ref (a 0)), (1, .ref (o 0))]) dX5_copyFrom_106 rfl (nI_1 _) (by decide) rfl ?_
              refine q_goto F (tgt := 64) dX5_copyFrom_109 (by decide) ?_
              refine q_lv [1, 2, 0] (lv' := [(0, .ref (a 0)), (1, .ref (o 0)), (2, .int (nI (i + 1)))]) rfl ?_
              refine q_perm pf1 ?_
              refine q_perm pf1 ?_
              refine q_to (lv' := [(0, .ref (a 0)), (1, .ref (o 0)), (2, .int (nI (i + 1)))]) (st' := []) (ws' := nC E a (t 0) sn (va_up (va_up (va_up (va_up (va_up (va_up (va_up B 2 (fil (B2 2) (B 2) 6)) 3 (fil (B2 3) (B 3) 6)) 4 (fil (B2 4) (B 4) 6)) 5 (fil (B2 5) (B 5) 6)) 6 (fil (B2 6) (B 6) (i + 1))) 7 (fil (B2 7) (B 7) (i + 1))) 8 (fil (B2 8) (B 8) (i + 1))) ++ (kC (a 1) kp km ku ++ tl)) rfl rfl (by simp only [fil_s]) ?_
              exact ih_64 (i + 1) (by omega) (by omega)
        refine q_lv [1, 2, 0] (lv' := [(0, .ref (a 0)), (1, .ref (o 0)), (2, .int (nI 0))]) rfl ?_
        refine q_perm pf1 ?_
        refine q_perm pf1 ?_
        refine q_to (lv' := [(0, .ref (a 0)), (1, .ref (o 0)), (2, .int (nI 0))]) (st' := []) (ws' := nC E a (t 0) sn (va_up (va_up (va_up (va_up (va_up (va_up (va_up B 2 (fil (B2 2) (B 2) 6)) 3 (fil (B2 3) (B 3) 6)) 4 (fil (B2 4) (B 4) 6)) 5 (fil (B2 5) (B 5) 6)) 6 (fil (B2 6) (B 6) 0)) 7 (fil (B2 7) (B 7) 0)) 8 (fil (B2 8) (B 8) 0)) ++ (kC (a 1) kp km ku ++ tl)) rfl rfl (by simp only [fil_0]; rfl) ?_
        exact lb64 (6 - 0 + 1) 0 (by omega) (Nat.lt_succ_self _)
      · skip
        have hn_5 : i < 6 := nf_ge_f (by omega) (by omega) h_5
        refine q_aload_n F 0 dX5_copyFrom_8 rfl ?_
        refine q_get F (ci := 5) (j := 2) (List.mem_append_left _ (List.mem_of_getElem? (i := 0) rfl)) rfl hi5 (by decide) hf18_5 rfl rfl dX5_copyFrom_9 ?_
        refine q_iload_n F 2 dX5_copyFrom_12 rfl ?_
        refine q_aload_n F 1 dX5_copyFrom_13 rfl ?_
        refine q_get F (ci := 5) (j := 2) (List.mem_append_right _ (List.mem_append_right _ (hO _ (List.mem_of_getElem? (i := 0) rfl)))) rfl hi5 (by decide) hf18_5 rfl rfl dX5_copyFrom_14 ?_
        refine q_iload_n F 2 dX5_copyFrom_17 rfl ?_
        refine q_iald F (List.mem_append_right _ (List.mem_append_right _ (hO _ (List.mem_of_getElem? (i := 1) rfl)))) i rfl (by omega) (by decide) dX5_copyFrom_18 ?_
        refine q_iast F 1 rfl i rfl (by omega) (by decide) dX5_copyFrom_19 (ws' := nC E a (t 0) sn (va_up (va_up (va_up (va_up B 2 (upd (fil (B2 2) (B 2) i) i (B2 2 i))) 3 (fil (B2 3) (B 3) i)) 4 (fil (B2 4) (B 4) i)) 5 (fil (B2 5) (B 5) i)) ++ (kC (a 1) kp km ku ++ tl)) rfl ?_
        refine q_aload_n F 0 dX5_copyFrom_20 rfl ?_
        refine q_get F (ci := 5) (j := 3) (List.mem_append_left _ (List.mem_of_getElem? (i := 0) rfl)) rfl hi5 (by decide) hf22_5 rfl rfl dX5_copyFrom_21 ?_
        refine q_iload_n F 2 dX5_copyFrom_24 rfl ?_
        refine q_aload_n F 1 dX5_copyFrom_25 rfl ?_
        refine q_get F (ci := 5) (j := 3) (List.mem_append_right _ (List.mem_append_right _ (hO _ (List.mem_of_getElem? (i := 0) rfl)))) rfl hi5 (by decide) hf22_5 rfl rfl dX5_copyFrom_26 ?_
        refine q_iload_n F 2 dX5_copyFrom_29 rfl ?_
        refine q_iald F (List.mem_append_right _ (List.mem_append_right _ (hO _ (List.mem_of_getElem? (i := 2) rfl)))) i rfl (by omega) (by decide) dX5_copyFrom_30 ?_
        refine q_iast F 2 rfl i rfl (by omega) (by decide) dX5_copyFrom_31 (ws' := nC E a (t 0) sn (va_up (va_up (va_up (va_up B 2 (upd (fil (B2 2) (B 2) i) i (B2 2 i))) 3 (upd (fil (B2 3) (B 3) i) i (B2 3 i))) 4 (fil (B2 4) (B 4) i)) 5 (fil (B2 5) (B 5) i)) ++ (kC (a 1) kp km ku ++ tl)) rfl ?_
        refine q_aload_n F 0 dX5_copyFrom_32 rfl ?_
        refine q_get F (ci := 5) (j := 4) (List.mem_append_left _ (List.mem_of_getElem? (i := 0) rfl)) rfl hi5 (by decide) hf25_5 rfl rfl dX5_copyFrom_33 ?_
        refine q_iload_n F 2 dX5_copyFrom_36 rfl ?_
        refine q_aload_n F 1 dX5_copyFrom_37 rfl ?_
        refine q_get F (ci := 5) (j := 4) (List.mem_append_right _ (List.mem_append_right _ (hO _ (List.mem_of_getElem? (i := 0) rfl)))) rfl hi5 (by decide) hf25_5 rfl rfl dX5_copyFrom_38 ?_
        refine q_iload_n F 2 dX5_copyFrom_41 rfl ?_
        refine q_iald F (List.mem_append_right _ (List.mem_append_right _ (hO _ (List.mem_of_getElem? (i := 3) rfl)))) i rfl (by omega) (by decide) dX5_copyFrom_42 ?_
        refine q_iast F 3 rfl i rfl (by omega) (by decide) dX5_copyFrom_43 (ws' := nC E a (t 0) sn (va_up (va_up (va_up (va_up B 2 (upd (fil (B2 2) (B 2) i) i (B2 2 i))) 3 (upd (fil (B2 3) (B 3) i) i (B2 3 i))) 4 (upd (fil (B2 4) (B 4) i) i (B2 4 i))) 5 (fil (B2 5) (B 5) i)) ++ (kC (a 1) kp km ku ++ tl)) rfl ?_
        refine q_aload_n F 0 dX5_copyFrom_44 rfl ?_
        refine q_get F (ci := 5) (j := 5) (List.mem_append_left _ (List.mem_of_getElem? (i := 0) rfl)) rfl hi5 (by decide) hf28_5 rfl rfl dX5_copyFrom_45 ?_
        refine q_iload_n F 2 dX5_copyFrom_48 rfl ?_
        refine q_aload_n F 1 dX5_copyFrom_49 rfl ?_
        refine q_get F (ci := 5) (j := 5) (List.mem_append_right _ (List.mem_append_right _ (hO _ (List.mem_of_getElem? (i := 0) rfl)))) rfl hi5 (by decide) hf28_5 rfl rfl dX5_copyFrom_50 ?_
        refine q_iload_n F 2 dX5_copyFrom_53 rfl ?_
        refine q_iald F (List.mem_append_right _ (List.mem_append_right _ (hO _ (List.mem_of_getElem? (i := 4) rfl)))) i rfl (by omega) (by decide) dX5_copyFrom_54 ?_
        refine q_iast F 4 rfl i rfl (by omega) (by decide) dX5_copyFrom_55 (ws' := nC E a (t 0) sn (va_up (va_up (va_up (va_up B 2 (upd (fil (B2 2) (B 2) i) i (B2 2 i))) 3 (upd (fil (B2 3) (B 3) i) i (B2 3 i))) 4 (upd (fil (B2 4) (B 4) i) i (B2 4 i))) 5 (upd (fil (B2 5) (B 5) i) i (B2 5 i))) ++ (kC (a 1) kp km ku ++ tl)) rfl ?_
        refine q_iinc F 2 (v := nI (i + 1)) (lv' := [(2, .int (nI (i + 1))), (0, .ref (a 0)), (1, .ref (o 0))]) dX5_copyFrom_56 rfl (nI_1 _) (by decide) rfl ?_
        refine q_goto F (tgt := 2) dX5_copyFrom_59 (by decide) ?_
        refine q_lv [1, 2, 0] (lv' := [(0, .ref (a 0)), (1, .ref (o 0)), (2, .int (nI (i + 1)))]) rfl ?_
        refine q_perm pf1 ?_
        refine q_perm pf1 ?_
        refine q_to (lv' := [(0, .ref (a 0)), (1, .ref (o 0)), (2, .int (nI (i + 1)))]) (st' := []) (ws' := nC E a (t 0) sn (va_up (va_up (va_up (va_up B 2 (fil (B2 2) (B 2) (i + 1))) 3 (fil (B2 3) (B 3) (i + 1))) 4 (fil (B2 4) (B 4) (i + 1))) 5 (fil (B2 5) (B 5) (i + 1))) ++ (kC (a 1) kp km ku ++ tl)) rfl rfl (by simp only [fil_s]) ?_
        exact ih_2 (i + 1) (by omega) (by omega)
  refine q_lv [1, 2, 0] (lv' := [(0, .ref (a 0)), (1, .ref (o 0)), (2, .int (nI 0))]) rfl ?_
  refine q_perm pf1 ?_
  refine q_perm pf1 ?_
  refine q_to (lv' := [(0, .ref (a 0)), (1, .ref (o 0)), (2, .int (nI 0))]) (st' := []) (ws' := nC E a (t 0) sn (va_up (va_up (va_up (va_up B 2 (fil (B2 2) (B 2) 0)) 3 (fil (B2 3) (B 3) 0)) 4 (fil (B2 4) (B 4) 0)) 5 (fil (B2 5) (B 5) 0)) ++ (kC (a 1) kp km ku ++ tl)) rfl rfl (by simp only [fil_0]; rfl) ?_
  exact lb2 (6 - 0 + 1) 0 (by omega) (Nat.lt_succ_self _)

set_option maxHeartbeats 4000000 in
set_option maxRecDepth 100000 in
theorem c_X5_note_lt (l : Launch) (E : gEnv) (a t : Nat → Nat) (T : gTown) (B : Nat → Nat → Int32) (kp km ku : Int32) (tl : va_W) (hT : isIn (tC E t T) tl) (hH : isHs T tl) (hn : tN T ≤ 6) (k : Nat) (hk : k < 6) (x y z : Int32) (hz : vp_nar .boolean z = z) : Cn l E yX5_note wsX5_note (rmL 0 0 0) [.ref (a 0), .int x, .int y, .int z] (nC E a (t 0) (nI k) B ++ (kC (a 1) kp km ku ++ tl)) 0 0 (fun v w => v = some (.int (nI 1)) ∧ w = nC E a (t 0) (nI (k + 1)) (va_up (va_up (va_up B 6 (upd (B 6) k x)) 7 (upd (B 7) k y)) 8 (upd (B 8) k z)) ++ (kC (a 1) kp km ku ++ tl)) := by
  refine Cn.of (own := RX5) (cc := cX5_note) (maxL := 4) (ret := (some .boolean)) (lv := [(0, .ref (a 0)), (1, .int x), (2, .int y), (3, .int z)]) (by decide) rfl rfl (Nat.le_of_ble_eq_true rfl) rfl ?_
  intro p_ e_ s_ m_ args_ below_ meth_ c_ A_ P_ hp_ F hr_ hnm_
  have hf49_5 : Cond.fieldLink RX5 49 "KeyOnStreet$Night" (TX5 9).2.1 (TX5 9).2.2.1 ∈ wsX5_note := by decide +kernel
  have hi5 : ∀ w ∈ u_ws RX5 TX5 10, w ∈ wsX5_note := by decide +kernel
  have hf31_5 : Cond.fieldLink RX5 31 "KeyOnStreet$Night" (TX5 6).2.1 (TX5 6).2.2.1 ∈ wsX5_note := by decide +kernel
  have hf34_5 : Cond.fieldLink RX5 34 "KeyOnStreet$Night" (TX5 7).2.1 (TX5 7).2.2.1 ∈ wsX5_note := by decide +kernel
  have hf37_5 : Cond.fieldLink RX5 37 "KeyOnStreet$Night" (TX5 8).2.1 (TX5 8).2.2.1 ∈ wsX5_note := by decide +kernel
  refine q_aload_n F 0 dX5_note_0 rfl ?_
  refine q_get F (ci := 5) (j := 9) (List.mem_append_left _ (List.mem_of_getElem? (i := 0) rfl)) rfl hi5 (by decide) hf49_5 rfl rfl dX5_note_1 ?_
  refine q_bipush F dX5_note_4 (v := nI 6) (by decide) ?_
  refine q_icmp_lt F (tgt := 11) dX5_note_6 (by decide) (fun h_6 => ?_) (fun h_6 => ?_)
  · skip
    have hn_6 : k < 6 := nf_lt_t (by omega) (by omega) h_6
    refine q_aload_n F 0 dX5_note_11 rfl ?_
    refine q_get F (ci := 5) (j := 6) (List.mem_append_left _ (List.mem_of_getElem? (i := 0) rfl)) rfl hi5 (by decide) hf31_5 rfl rfl dX5_note_12 ?_
    refine q_aload_n F 0 dX5_note_15 rfl ?_
    refine q_get F (ci := 5) (j := 9) (List.mem_append_left _ (List.mem_of_getElem? (i := 0) rfl)) rfl hi5 (by decide) hf49_5 rfl rfl dX5_note_16 ?_
    refine q_iload_n F 1 dX5_note_19 rfl ?_
    refine q_iast F 5 rfl k rfl (by omega) (by decide) dX5_note_20 (ws' := nC E a (t 0) (nI k) (va_up B 6 (upd (B 6) k x)) ++ (kC (a 1) kp km ku ++ tl)) rfl ?_
    refine q_aload_n F 0 dX5_note_21 rfl ?_
    refine q_get F (ci := 5) (j := 7) (List.mem_append_left _ (List.mem_of_getElem? (i := 0) rfl)) rfl hi5 (by decide) hf34_5 rfl rfl dX5_note_22 ?_
    refine q_aload_n F 0 dX5_note_25 rfl ?_
    refine q_get F (ci := 5) (j := 9) (List.mem_append_left _ (List.mem_of_getElem? (i := 0) rfl)) rfl hi5 (by decide) hf49_5 rfl rfl dX5_note_26 ?_
    refine q_iload_n F 2 dX5_note_29 rfl ?_
    refine q_iast F 6 rfl k rfl (by omega) (by decide) dX5_note_30 (ws' := nC E a (t 0) (nI k) (va_up (va_up B 6 (upd (B 6) k x)) 7 (upd (B 7) k y)) ++ (kC (a 1) kp km ku ++ tl)) rfl ?_
    refine q_aload_n F 0 dX5_note_31 rfl ?_
    refine q_get F (ci := 5) (j := 8) (List.mem_append_left _ (List.mem_of_getElem? (i := 0) rfl)) rfl hi5 (by decide) hf37_5 rfl rfl dX5_note_32 ?_
    refine q_aload_n F 0 dX5_note_35 rfl ?_
    refine q_get F (ci := 5) (j := 9) (List.mem_append_left _ (List.mem_of_getElem? (i := 0) rfl)) rfl hi5 (by decide) hf49_5 rfl rfl dX5_note_36 ?_
    refine q_iload_n F 3 dX5_note_39 rfl ?_
    refine q_zast F 7 rfl k rfl (by omega) (by decide) (hz) dX5_note_40 (ws' := nC E a (t 0) (nI k) (va_up (va_up (va_up B 6 (upd (B 6) k x)) 7 (upd (B 7) k y)) 8 (upd (B 8) k z)) ++ (kC (a 1) kp km ku ++ tl)) rfl ?_
    refine q_aload_n F 0 dX5_note_41 rfl ?_
    refine q_dup F dX5_note_42 rfl ?_
    refine q_get F (ci := 5) (j := 9) (List.mem_append_left _ (List.mem_of_getElem? (i := 0) rfl)) rfl hi5 (by decide) hf49_5 rfl rfl dX5_note_43 ?_
    refine q_iconst F dX5_note_46 (v := nI 1) (by decide) ?_
    refine q_iadd F dX5_note_47 ?_
    refine q_toi (nI (k + 1)) (nI_add _ _) ?_
    refine q_put F (j := 9) 0 rfl rfl hi5 tyX5 tyX5_ok nmX5 (by decide) hf49_5 rfl rfl rfl rfl (Nat.le_of_ble_eq_true rfl) dX5_note_48 (ws' := nC E a (t 0) (nI (k + 1)) (va_up (va_up (va_up B 6 (upd (B 6) k x)) 7 (upd (B 7) k y)) 8 (upd (B 8) k z)) ++ (kC (a 1) kp km ku ++ tl)) rfl ?_
    refine q_iconst F dX5_note_51 (v := nI 1) (by decide) ?_
    refine q_perm pf1 ?_
    refine q_perm pf1 ?_
    refine q_zret F hr_ (by decide) dX5_note_52 (hp_ _ _ ⟨congrArg (fun z => some (Value.int z)) ?_, ?_⟩)
    · first | rfl | simp_all
    · rfl
  · skip
    have hn_6 : k ≥ 6 := nf_lt_f (by omega) (by omega) h_6
    omega

set_option maxHeartbeats 4000000 in
set_option maxRecDepth 100000 in
theorem c_X5_note_full (l : Launch) (E : gEnv) (a t : Nat → Nat) (T : gTown) (B : Nat → Nat → Int32) (kp km ku : Int32) (tl : va_W) (hT : isIn (tC E t T) tl) (hH : isHs T tl) (hn : tN T ≤ 6) (x y z : Int32) : Cn l E yX5_note wsX5_note (rmL 0 0 0) [.ref (a 0), .int x, .int y, .int z] (nC E a (t 0) (nI 6) B ++ (kC (a 1) kp km ku ++ tl)) 0 0 (fun v w => v = some (.int (nI 0)) ∧ w = nC E a (t 0) (nI 6) B ++ (kC (a 1) kp km ku ++ tl)) := by
  refine Cn.of (own := RX5) (cc := cX5_note) (maxL := 4) (ret := (some .boolean)) (lv := [(0, .ref (a 0)), (1, .int x), (2, .int y), (3, .int z)]) (by decide) rfl rfl (Nat.le_of_ble_eq_true rfl) rfl ?_
  intro p_ e_ s_ m_ args_ below_ meth_ c_ A_ P_ hp_ F hr_ hnm_
  have hf49_5 : Cond.fieldLink RX5 49 "KeyOnStreet$Night" (TX5 9).2.1 (TX5 9).2.2.1 ∈ wsX5_note := by decide +kernel
  have hi5 : ∀ w ∈ u_ws RX5 TX5 10, w ∈ wsX5_note := by decide +kernel
  refine q_aload_n F 0 dX5_note_0 rfl ?_
  refine q_get F (ci := 5) (j := 9) (List.mem_append_left _ (List.mem_of_getElem? (i := 0) rfl)) rfl hi5 (by decide) hf49_5 rfl rfl dX5_note_1 ?_
  refine q_bipush F dX5_note_4 (v := nI 6) (by decide) ?_
  refine q_icmp_lt F (tgt := 11) dX5_note_6 (by decide) (fun h_6 => ?_) (fun h_6 => ?_)
  · skip
    exact absurd h_6 (by decide)
  · skip
    refine q_iconst F dX5_note_9 (v := nI 0) (by decide) ?_
    refine q_perm pf1 ?_
    refine q_perm pf1 ?_
    refine q_zret F hr_ (by decide) dX5_note_10 (hp_ _ _ ⟨congrArg (fun z => some (Value.int z)) ?_, ?_⟩)
    · first | rfl | simp_all
    · rfl

set_option maxHeartbeats 4000000 in
set_option maxRecDepth 100000 in
theorem c_X5_wasInBy (l : Launch) (E : gEnv) (a t : Nat → Nat) (T : gTown) (sn : Int32) (B : Nat → Nat → Int32) (kp km ku : Int32) (ws : va_W) (hN : isIn (nC E a (t 0) sn B) ws) (hK : isIn (kC (a 1) kp km ku) ws) (hT : isIn (tC E t T) ws) (hH : isHs T ws) (hn : tN T ≤ 6) (x m : Int32) : Cn l E yX5_wasInBy wsX5_wasInBy (rmL 1 0 0) [.ref (a 0), .int x, .int m] (ws) 0 0 (fun v w => v = some (.int (bI (seenB T (B 3) x m))) ∧ w = ws) := by
  refine Cn.of (own := RX5) (cc := cX5_wasInBy) (maxL := 3) (ret := (some .boolean)) (lv := [(0, .ref (a 0)), (1, .int x), (2, .int m)]) (by decide) rfl rfl (Nat.le_of_ble_eq_true rfl) rfl ?_
  intro p_ e_ s_ m_ args_ below_ meth_ c_ A_ P_ hp_ F hr_ hnm_
  have hf41_5 : Cond.fieldLink RX5 41 "KeyOnStreet$Night" (TX5 0).2.1 (TX5 0).2.2.1 ∈ wsX5_wasInBy := by decide +kernel
  have hi5 : ∀ w ∈ u_ws RX5 TX5 10, w ∈ wsX5_wasInBy := by decide +kernel
  have hd_X8_has : yX8_has.cls = RX8 ∧ yX8_has.cls ≠ "java/lang/invoke/MethodHandle" ∧ yX8_has.cls ≠ "java/lang/invoke/VarHandle" ∧ (parseMethodDescriptor yX8_has.desc).map (fun d => d.parameters.length) = some 1 := by decide +kernel
  have hf22_5 : Cond.fieldLink RX5 22 "KeyOnStreet$Night" (TX5 3).2.1 (TX5 3).2.2.1 ∈ wsX5_wasInBy := by decide +kernel
  refine q_aload_n F 0 dX5_wasInBy_0 rfl ?_
  refine q_get F (ci := 5) (j := 0) (hN _ (List.mem_of_getElem? (i := 0) rfl)) rfl hi5 (by decide) hf41_5 rfl rfl dX5_wasInBy_1 ?_
  refine q_iload_n F 1 dX5_wasInBy_4 rfl ?_
  refine q_callV F (ci := 8) (As := [.int x]) (rest := []) (hT _ (List.mem_of_getElem? (i := 0) rfl)) rfl (c_X8_has l E t T ws hT x) (List.Perm.refl _) gX5_wasInBy_X8_has rfl rfl rfl hd_X8_has ⟨by decide, by decide⟩ rfl (Nat.le_of_ble_eq_true rfl) dX5_wasInBy_5 ⟨by decide, by decide⟩ (fun v_ w_ hvw => ?_)
  rw [hvw.1, hvw.2]
  clear hvw
  refine q_at (pc' := 8) (st' := [.int (bI (hsB (tN T) x))]) (ws' := ws) (k' := 0) (n' := 0) rfl rfl rfl rfl rfl ?_
  refine q_if_eq F (tgt := 35) dX5_wasInBy_8 (by decide) (fun h_8 => ?_) (fun h_8 => ?_)
  · skip
    have hb_8 := bI_0 h_8
    refine q_iconst F dX5_wasInBy_35 (v := nI 0) (by decide) ?_
    refine q_zret F hr_ (by decide) dX5_wasInBy_36 (hp_ _ _ ⟨congrArg (fun z => some (Value.int z)) ?_, ?_⟩)
    · first | (rw [seenB_nI hn hj]; simp [bI, *]; done) | simp [seenB, bI, *]
    · rfl
  · skip
    have hb_8 := bI_1 h_8
    obtain ⟨j, hj, rfl⟩ := hsB_of hn hb_8
    refine q_aload_n F 0 dX5_wasInBy_11 rfl ?_
    refine q_get F (ci := 5) (j := 3) (hN _ (List.mem_of_getElem? (i := 0) rfl)) rfl hi5 (by decide) hf22_5 rfl rfl dX5_wasInBy_12 ?_
    refine q_iload_n F 1 dX5_wasInBy_15 rfl ?_
    refine q_iald F (hN _ (List.mem_of_getElem? (i := 2) rfl)) j rfl (by omega) (by decide) dX5_wasInBy_16 ?_
    refine q_iconst F dX5_wasInBy_17 (v := (-1)) (by decide) ?_
    refine q_icmp_eq F (tgt := 35) dX5_wasInBy_18 (by decide) (fun h_18 => ?_) (fun h_18 => ?_)
    · skip
      refine q_iconst F dX5_wasInBy_35 (v := nI 0) (by decide) ?_
      refine q_zret F hr_ (by decide) dX5_wasInBy_36 (hp_ _ _ ⟨congrArg (fun z => some (Value.int z)) ?_, ?_⟩)
      · first | (rw [seenB_nI hn hj]; simp [bI, *]; done) | simp [seenB, bI, *]
      · rfl
    · skip
      refine q_aload_n F 0 dX5_wasInBy_21 rfl ?_
      refine q_get F (ci := 5) (j := 3) (hN _ (List.mem_of_getElem? (i := 0) rfl)) rfl hi5 (by decide) hf22_5 rfl rfl dX5_wasInBy_22 ?_
      refine q_iload_n F 1 dX5_wasInBy_25 rfl ?_
      refine q_iald F (hN _ (List.mem_of_getElem? (i := 2) rfl)) j rfl (by omega) (by decide) dX5_wasInBy_26 ?_
      refine q_iload_n F 2 dX5_wasInBy_27 rfl ?_
      refine q_icmp_gt F (tgt := 35) dX5_wasInBy_28 (by decide) (fun h_28 => ?_) (fun h_28 => ?_)
      · skip
        have hz_28 := Int32.not_le.mpr h_28
        refine q_iconst F dX5_wasInBy_35 (v := nI 0) (by decide) ?_
        refine q_zret F hr_ (by decide) dX5_wasInBy_36 (hp_ _ _ ⟨congrArg (fun z => some (Value.int z)) ?_, ?_⟩)
        · first | (rw [seenB_nI hn hj]; simp [bI, *]; done) | simp [seenB, bI, *]
        · rfl
      · skip
        have hz_28 := Int32.not_lt.mp h_28
        refine q_iconst F dX5_wasInBy_31 (v := nI 1) (by decide) ?_
        refine q_goto F (tgt := 36) dX5_wasInBy_32 (by decide) ?_
        refine q_zret F hr_ (by decide) dX5_wasInBy_36 (hp_ _ _ ⟨congrArg (fun z => some (Value.int z)) ?_, ?_⟩)
        · first | (rw [seenB_nI hn hj]; simp [bI, *]; done) | simp [seenB, bI, *]
        · rfl

set_option maxHeartbeats 4000000 in
set_option maxRecDepth 100000 in
theorem c_X5_isAsSeen (l : Launch) (E : gEnv) (a t : Nat → Nat) (T : gTown) (k : Nat) (B : Nat → Nat → Int32) (kp km ku : Int32) (ws : va_W) (hN : isIn (nC E a (t 0) (nI k) B) ws) (hK : isIn (kC (a 1) kp km ku) ws) (hT : isIn (tC E t T) ws) (hH : isHs T ws) (hn : tN T ≤ 6) (hk : k ≤ 6) : Cn l E yX5_isAsSeen wsX5_isAsSeen (rmL 2 0 0) [.ref (a 0)] (ws) 0 0 (fun v w => v = some (.int (bI (asL T B k))) ∧ w = ws) := by
  refine Cn.of (own := RX5) (cc := cX5_isAsSeen) (maxL := 2) (ret := (some .boolean)) (lv := [(0, .ref (a 0))]) (by decide) rfl rfl (Nat.le_of_ble_eq_true rfl) rfl ?_
  intro p_ e_ s_ m_ args_ below_ meth_ c_ A_ P_ hp_ F hr_ hnm_
  have hf49_5 : Cond.fieldLink RX5 49 "KeyOnStreet$Night" (TX5 9).2.1 (TX5 9).2.2.1 ∈ wsX5_isAsSeen := by decide +kernel
  have hi5 : ∀ w ∈ u_ws RX5 TX5 10, w ∈ wsX5_isAsSeen := by decide +kernel
  have hf31_5 : Cond.fieldLink RX5 31 "KeyOnStreet$Night" (TX5 6).2.1 (TX5 6).2.2.1 ∈ wsX5_isAsSeen := by decide +kernel
  have hf34_5 : Cond.fieldLink RX5 34 "KeyOnStreet$Night" (TX5 7).2.1 (TX5 7).2.2.1 ∈ wsX5_isAsSeen := by decide +kernel
  have hd_X5_wasInBy : yX5_wasInBy.cls = RX5 ∧ yX5_wasInBy.cls ≠ "java/lang/invoke/MethodHandle" ∧ yX5_wasInBy.cls ≠ "java/lang/invoke/VarHandle" ∧ (parseMethodDescriptor yX5_wasInBy.desc).map (fun d => d.parameters.length) = some 2 := by decide +kernel
  have hf37_5 : Cond.fieldLink RX5 37 "KeyOnStreet$Night" (TX5 8).2.1 (TX5 8).2.2.1 ∈ wsX5_isAsSeen := by decide +kernel
  refine q_iconst F dX5_isAsSeen_0 (v := nI 0) (by decide) ?_
  refine q_istore_n F (lv' := [(1, .int (nI 0)), (0, .ref (a 0))]) dX5_isAsSeen_1 (by decide) rfl ?_
  have lb2 : ∀ (fu : Nat) (i : Nat) (hi : i ≤ k) (ha : asL T B i = true), k - i < fu → gW p_ l e_ (rmL 2 0 0) s_ m_ args_ below_ meth_ c_ E A_ 2 (MQ below_ (gQ E A_ P_) args_ s_ 0 0 A_) 2 [(0, .ref (a 0)), (1, .int (nI i))] [] (ws) 0 0 := by
    intro fu_2
    induction fu_2 with
    | zero => intro i hi ha hfu; exact absurd hfu (Nat.not_lt_zero _)
    | succ fu_2 ih_2 =>
      intro i hi ha hfu_2
      refine q_iload_n F 1 dX5_isAsSeen_2 rfl ?_
      refine q_aload_n F 0 dX5_isAsSeen_3 rfl ?_
      refine q_get F (ci := 5) (j := 9) (hN _ (List.mem_of_getElem? (i := 0) rfl)) rfl hi5 (by decide) hf49_5 rfl rfl dX5_isAsSeen_4 ?_
      refine q_icmp_ge F (tgt := 49) dX5_isAsSeen_7 (by decide) (fun h_7 => ?_) (fun h_7 => ?_)
      · skip
        have hn_7 : i ≥ k := nf_ge_t (by omega) (by omega) h_7
        refine q_iconst F dX5_isAsSeen_49 (v := nI 1) (by decide) ?_
        refine q_zret F hr_ (by decide) dX5_isAsSeen_50 (hp_ _ _ ⟨congrArg (fun z => some (Value.int z)) ?_, ?_⟩)
        · (have e6 : i = k := by omega); rw [← e6, ha]; rfl
        · rfl
      · skip
        have hn_7 : i < k := nf_ge_f (by omega) (by omega) h_7
        refine q_iload_n F 1 dX5_isAsSeen_10 rfl ?_
        refine q_bipush F dX5_isAsSeen_11 (v := nI 6) (by decide) ?_
        refine q_icmp_ge F (tgt := 49) dX5_isAsSeen_13 (by decide) (fun h_13 => ?_) (fun h_13 => ?_)
        · skip
          have hn_13 : i ≥ 6 := nf_ge_t (by omega) (by omega) h_13
          omega
        · skip
          have hn_13 : i < 6 := nf_ge_f (by omega) (by omega) h_13
          refine q_aload_n F 0 dX5_isAsSeen_16 rfl ?_
          refine q_aload_n F 0 dX5_isAsSeen_17 rfl ?_
          refine q_get F (ci := 5) (j := 6) (hN _ (List.mem_of_getElem? (i := 0) rfl)) rfl hi5 (by decide) hf31_5 rfl rfl dX5_isAsSeen_18 ?_
          refine q_iload_n F 1 dX5_isAsSeen_21 rfl ?_
          refine q_iald F (hN _ (List.mem_of_getElem? (i := 5) rfl)) i rfl (by omega) (by decide) dX5_isAsSeen_22 ?_
          refine q_aload_n F 0 dX5_isAsSeen_23 rfl ?_
          refine q_get F (ci := 5) (j := 7) (hN _ (List.mem_of_getElem? (i := 0) rfl)) rfl hi5 (by decide) hf34_5 rfl rfl dX5_isAsSeen_24 ?_
          refine q_iload_n F 1 dX5_isAsSeen_27 rfl ?_
          refine q_iald F (hN _ (List.mem_of_getElem? (i := 6) rfl)) i rfl (by omega) (by decide) dX5_isAsSeen_28 ?_
          refine q_callV F (ci := 5) (As := [.int (B 6 i), .int (B 7 i)]) (rest := []) (hN _ (List.mem_of_getElem? (i := 0) rfl)) rfl (c_X5_wasInBy l E a t T (nI k) B kp km ku ws hN hK hT hH hn (B 6 i) (B 7 i)) (List.Perm.refl _) gX5_isAsSeen_X5_wasInBy rfl rfl rfl hd_X5_wasInBy ⟨by decide, by decide⟩ rfl (Nat.le_of_ble_eq_true rfl) dX5_isAsSeen_29 ⟨by decide, by decide⟩ (fun v_ w_ hvw => ?_)
          rw [hvw.1, hvw.2]
          clear hvw
          refine q_at (pc' := 32) (st' := [.int (bI (seenB T (B 3) (B 6 i) (B 7 i)))]) (ws' := ws) (k' := 0) (n' := 0) rfl rfl rfl rfl rfl ?_
          refine q_aload_n F 0 dX5_isAsSeen_32 rfl ?_
          refine q_get F (ci := 5) (j := 8) (hN _ (List.mem_of_getElem? (i := 0) rfl)) rfl hi5 (by decide) hf37_5 rfl rfl dX5_isAsSeen_33 ?_
          refine q_iload_n F 1 dX5_isAsSeen_36 rfl ?_
          refine q_zald F (hN _ (List.mem_of_getElem? (i := 7) rfl)) i rfl (by omega) (by decide) dX5_isAsSeen_37 ?_
          refine q_icmp_eq F (tgt := 43) dX5_isAsSeen_38 (by decide) (fun h_38 => ?_) (fun h_38 => ?_)
          · skip
            refine q_iinc F 1 (v := nI (i + 1)) (lv' := [(1, .int (nI (i + 1))), (0, .ref (a 0))]) dX5_isAsSeen_43 rfl (nI_1 _) (by decide) rfl ?_
            refine q_goto F (tgt := 2) dX5_isAsSeen_46 (by decide) ?_
            refine q_lv [1, 0] (lv' := [(0, .ref (a 0)), (1, .int (nI (i + 1)))]) rfl ?_
            refine q_to (lv' := [(0, .ref (a 0)), (1, .int (nI (i + 1)))]) (st' := []) (ws' := ws) rfl rfl rfl ?_
            exact ih_2 (i + 1) (by omega) (by simp [asL, *]) (by omega)
          · skip
            refine q_iconst F dX5_isAsSeen_41 (v := nI 0) (by decide) ?_
            refine q_zret F hr_ (by decide) dX5_isAsSeen_42 (hp_ _ _ ⟨congrArg (fun z => some (Value.int z)) ?_, ?_⟩)
            · (have e9 : asL T B (i + 1) = false := by simp [asL, *]); rw [asL_mono e9 (by omega)]; rfl
            · rfl
  refine q_lv [1, 0] (lv' := [(0, .ref (a 0)), (1, .int (nI 0))]) rfl ?_
  refine q_to (lv' := [(0, .ref (a 0)), (1, .int (nI 0))]) (st' := []) (ws' := ws) rfl rfl rfl ?_
  exact lb2 (k - 0 + 1) 0 (by omega) (rfl) (Nat.lt_succ_self _)
