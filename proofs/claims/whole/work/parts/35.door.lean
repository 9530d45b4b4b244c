/-! how many are out, counted by Integer.bitCount -/
def usr (x k : Int32) : Int32 := (x.toUInt32 >>> (k.toUInt32 &&& Int32.toUInt32 31)).toInt32
def bc1 (x : Int32) : Int32 := x - (usr x (nI 1) &&& 1431655765)
def bc2 (x : Int32) : Int32 := (x &&& 858993459) + (usr x (nI 2) &&& 858993459)
def bc3 (x : Int32) : Int32 := (x + usr x (nI 4)) &&& 252645135
def bc4 (x : Int32) : Int32 := x + usr x (nI 8)
def bc5 (x : Int32) : Int32 := x + usr x (nI 16)
def bcE (x : Int32) : Int32 := bc5 (bc4 (bc3 (bc2 (bc1 x)))) &&& nI 63
theorem bcE6 : ∀ b0 b1 b2 b3 b4 b5 : Bool, bcE (wb (b6 b0 b1 b2 b3 b4 b5) 6) = nI (cnt (b6 b0 b1 b2 b3 b4 b5) 6) := by decide +kernel
theorem bcE_6 (b : Nat → Bool) : bcE (wb b 6) = nI (cnt b 6) := by rw [wb_6, cnt_6]; exact bcE6 _ _ _ _ _ _
set_option maxHeartbeats 4000000 in
set_option maxRecDepth 100000 in
theorem c_J6_bitCount_0f7a4 (l : Launch) (E : gEnv) (ws : va_W) (b : Nat → Bool) : Cn l E yJ6_bitCount_0f7a4 wsJ6_bitCount_0f7a4 (rmL 0 0 0) [.int (wb b 6)] (ws) 0 0 (fun v w => v = some (.int (nI (cnt b 6))) ∧ w = ws) := by
  refine Cn.of (own := RJ6) (cc := cJ6_bitCount_0f7a4) (maxL := 1) (ret := (some .int)) (lv := [(0, .int (wb b 6))]) (by decide) rfl rfl (Nat.le_of_ble_eq_true rfl) rfl ?_
  intro p_ e_ s_ m_ args_ below_ meth_ c_ A_ P_ hp_ F hr_ hnm_
  have hk265 : Cond.constant RJ6 265 (nI 1431655765) ∈ wsJ6_bitCount_0f7a4 := by decide +kernel
  have hk266 : Cond.constant RJ6 266 (nI 858993459) ∈ wsJ6_bitCount_0f7a4 := by decide +kernel
  have hk267 : Cond.constant RJ6 267 (nI 252645135) ∈ wsJ6_bitCount_0f7a4 := by decide +kernel
  refine q_iload_n F 0 dJ6_bitCount_0f7a4_0 rfl ?_
  refine q_iload_n F 0 dJ6_bitCount_0f7a4_1 rfl ?_
  refine q_iconst F dJ6_bitCount_0f7a4_2 (v := nI 1) (by decide) ?_
  refine q_iushr F dJ6_bitCount_0f7a4_3 (v := usr (wb b 6) (nI 1)) (rfl) ?_
  refine q_ldcw F hk265 dJ6_bitCount_0f7a4_4 ?_
  refine q_iand F dJ6_bitCount_0f7a4_7 ?_
  refine q_isub F dJ6_bitCount_0f7a4_8 ?_
  refine q_istore_n F (lv' := [(0, .int ((wb b 6) - ((usr (wb b 6) (nI 1)) &&& (nI 1431655765))))]) dJ6_bitCount_0f7a4_9 (by decide) rfl ?_
  refine q_to (lv' := [(0, .int (bc1 (wb b 6)))]) (st' := []) (ws' := ws) (cE (vE rfl) rfl) rfl rfl ?_
  refine q_iload_n F 0 dJ6_bitCount_0f7a4_10 rfl ?_
  refine q_ldcw F hk266 dJ6_bitCount_0f7a4_11 ?_
  refine q_iand F dJ6_bitCount_0f7a4_14 ?_
  refine q_iload_n F 0 dJ6_bitCount_0f7a4_15 rfl ?_
  refine q_iconst F dJ6_bitCount_0f7a4_16 (v := nI 2) (by decide) ?_
  refine q_iushr F dJ6_bitCount_0f7a4_17 (v := usr (bc1 (wb b 6)) (nI 2)) (rfl) ?_
  refine q_ldcw F hk266 dJ6_bitCount_0f7a4_18 ?_
  refine q_iand F dJ6_bitCount_0f7a4_21 ?_
  refine q_iadd F dJ6_bitCount_0f7a4_22 ?_
  refine q_istore_n F (lv' := [(0, .int (((bc1 (wb b 6)) &&& (nI 858993459)) + ((usr (bc1 (wb b 6)) (nI 2)) &&& (nI 858993459))))]) dJ6_bitCount_0f7a4_23 (by decide) rfl ?_
  refine q_to (lv' := [(0, .int (bc2 (bc1 (wb b 6))))]) (st' := []) (ws' := ws) (cE (vE rfl) rfl) rfl rfl ?_
  refine q_iload_n F 0 dJ6_bitCount_0f7a4_24 rfl ?_
  refine q_iload_n F 0 dJ6_bitCount_0f7a4_25 rfl ?_
  refine q_iconst F dJ6_bitCount_0f7a4_26 (v := nI 4) (by decide) ?_
  refine q_iushr F dJ6_bitCount_0f7a4_27 (v := usr (bc2 (bc1 (wb b 6))) (nI 4)) (rfl) ?_
  refine q_iadd F dJ6_bitCount_0f7a4_28 ?_
  refine q_ldcw F hk267 dJ6_bitCount_0f7a4_29 ?_
  refine q_iand F dJ6_bitCount_0f7a4_32 ?_
  refine q_istore_n F (lv' := [(0, .int (((bc2 (bc1 (wb b 6))) + (usr (bc2 (bc1 (wb b 6))) (nI 4))) &&& (nI 252645135)))]) dJ6_bitCount_0f7a4_33 (by decide) rfl ?_
  refine q_to (lv' := [(0, .int (bc3 (bc2 (bc1 (wb b 6)))))]) (st' := []) (ws' := ws) (cE (vE rfl) rfl) rfl rfl ?_
  refine q_iload_n F 0 dJ6_bitCount_0f7a4_34 rfl ?_
  refine q_iload_n F 0 dJ6_bitCount_0f7a4_35 rfl ?_
  refine q_bipush F dJ6_bitCount_0f7a4_36 (v := nI 8) (by decide) ?_
  refine q_iushr F dJ6_bitCount_0f7a4_38 (v := usr (bc3 (bc2 (bc1 (wb b 6)))) (nI 8)) (rfl) ?_
  refine q_iadd F dJ6_bitCount_0f7a4_39 ?_
  refine q_istore_n F (lv' := [(0, .int ((bc3 (bc2 (bc1 (wb b 6)))) + (usr (bc3 (bc2 (bc1 (wb b 6)))) (nI 8))))]) dJ6_bitCount_0f7a4_40 (by decide) rfl ?_
  refine q_to (lv' := [(0, .int (bc4 (bc3 (bc2 (bc1 (wb b 6))))))]) (st' := []) (ws' := ws) (cE (vE rfl) rfl) rfl rfl ?_
  refine q_iload_n F 0 dJ6_bitCount_0f7a4_41 rfl ?_
  refine q_iload_n F 0 dJ6_bitCount_0f7a4_42 rfl ?_
  refine q_bipush F dJ6_bitCount_0f7a4_43 (v := nI 16) (by decide) ?_
  refine q_iushr F dJ6_bitCount_0f7a4_45 (v := usr (bc4 (bc3 (bc2 (bc1 (wb b 6))))) (nI 16)) (rfl) ?_
  refine q_iadd F dJ6_bitCount_0f7a4_46 ?_
  refine q_istore_n F (lv' := [(0, .int ((bc4 (bc3 (bc2 (bc1 (wb b 6))))) + (usr (bc4 (bc3 (bc2 (bc1 (wb b 6))))) (nI 16))))]) dJ6_bitCount_0f7a4_47 (by decide) rfl ?_
  refine q_to (lv' := [(0, .int (bc5 (bc4 (bc3 (bc2 (bc1 (wb b 6)))))))]) (st' := []) (ws' := ws) (cE (vE rfl) rfl) rfl rfl ?_
  refine q_iload_n F 0 dJ6_bitCount_0f7a4_48 rfl ?_
  refine q_bipush F dJ6_bitCount_0f7a4_49 (v := nI 63) (by decide) ?_
  refine q_iand F dJ6_bitCount_0f7a4_51 ?_
  refine q_iret F hr_ dJ6_bitCount_0f7a4_52 (hp_ _ _ ⟨congrArg (fun z => some (Value.int z)) ?_, ?_⟩)
  · exact bcE_6 b
  · rfl

set_option maxHeartbeats 4000000 in
set_option maxRecDepth 100000 in
theorem c_X5_outAtDoor (l : Launch) (E : gEnv) (a t : Nat → Nat) (T : gTown) (sn : Int32) (B : Nat → Nat → Int32) (kp km ku : Int32) (ws : va_W) (hN : isIn (nC E a (t 0) sn B) ws) (hK : isIn (kC (a 1) kp km ku) ws) (hT : isIn (tC E t T) ws) (hH : isHs T ws) (hn : tN T ≤ 6) : Cn l E yX5_outAtDoor wsX5_outAtDoor (rmL 1 0 0) [.ref (a 0)] (ws) 0 0 (fun v w => v = some (.int (nI (cnt (outB (B 2)) 6))) ∧ w = ws) := by
  refine Cn.of (own := RX5) (cc := cX5_outAtDoor) (maxL := 1) (ret := (some .int)) (lv := [(0, .ref (a 0))]) (by decide) rfl rfl (Nat.le_of_ble_eq_true rfl) rfl ?_
  intro p_ e_ s_ m_ args_ below_ meth_ c_ A_ P_ hp_ F hr_ hnm_
  have hd_X5_waiting : yX5_waiting.cls = RX5 ∧ yX5_waiting.cls ≠ "java/lang/invoke/MethodHandle" ∧ yX5_waiting.cls ≠ "java/lang/invoke/VarHandle" ∧ (parseMethodDescriptor yX5_waiting.desc).map (fun d => d.parameters.length) = some 0 := by decide +kernel
  have hd_J6_bitCount_0f7a4 : yJ6_bitCount_0f7a4.cls ≠ "java/lang/invoke/MethodHandle" ∧ yJ6_bitCount_0f7a4.cls ≠ "java/lang/invoke/VarHandle" ∧ (parseMethodDescriptor yJ6_bitCount_0f7a4.desc).map (fun d => d.parameters.length) = some 1 := by decide +kernel
  refine q_aload_n F 0 dX5_outAtDoor_0 rfl ?_
  refine q_callV F (ci := 5) (As := []) (rest := []) (hN _ (List.mem_of_getElem? (i := 0) rfl)) rfl (c_X5_waiting l E a t T sn B kp km ku ws hN hK hT hH hn ) (List.Perm.refl _) gX5_outAtDoor_X5_waiting rfl rfl rfl hd_X5_waiting ⟨by decide, by decide⟩ rfl (Nat.le_of_ble_eq_true rfl) dX5_outAtDoor_1 ⟨Nat.le_of_ble_eq_true rfl, Nat.le_of_ble_eq_true rfl⟩ (fun v_ w_ hvw => ?_)
  rw [hvw.1, hvw.2]
  clear hvw
  refine q_at (pc' := 4) (st' := [.int (wtB (B 2) 6)]) (ws' := ws) (k' := 0) (n' := 0) rfl rfl rfl rfl rfl ?_
  refine q_toi (wb (outB (B 2)) 6) (wtB_wb _ 6) ?_
  refine q_callS F (As := [.int (wb (outB (B 2)) 6)]) (rest := []) (c_J6_bitCount_0f7a4 l E ws (outB (B 2))) (List.Perm.refl _) gX5_outAtDoor_J6_bitCount_0f7a4 rfl rfl rfl hd_J6_bitCount_0f7a4 ⟨by decide, by decide⟩ rfl (Nat.le_of_ble_eq_true rfl) dX5_outAtDoor_4 ⟨Nat.le_of_ble_eq_true rfl, Nat.le_of_ble_eq_true rfl⟩ (fun v_ w_ hvw => ?_)
  rw [hvw.1, hvw.2]
  clear hvw
  refine q_at (pc' := 7) (st' := [.int (nI (cnt (outB (B 2)) 6))]) (ws' := ws) (k' := 0) (n' := 0) rfl rfl rfl rfl rfl ?_
  refine q_iret F hr_ dX5_outAtDoor_7 (hp_ _ _ ⟨congrArg (fun z => some (Value.int z)) ?_, ?_⟩)
  · first | rfl | simp_all
  · rfl
