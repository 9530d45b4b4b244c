/-! the class's page -/
def cdA (n : Nat) (f : Nat → Int32) (x : Int32) : Int32 := if 0 ≤ x ∧ x < nI n then f x.toNatClampNeg else nI 0
set_option maxHeartbeats 4000000 in
set_option maxRecDepth 100000 in
theorem c_X6_write (l : Launch) (E : gEnv) (q : Nat → Nat) (n : Nat) (f : Nat → Int32) (tl : va_W) (hn : n ≤ 30) (x : Int32) : Cn l E yX6_write wsX6_write (rmL 0 0 0) [.ref (q 0), .int x] (pC E q n f ++ tl) 0 0 (fun v w => (n = 30 ∧ v = some (.int (nI 0)) ∧ w = pC E q n f ++ tl) ∨ (n < 30 ∧ v = some (.int (nI 1)) ∧ w = pC E q (n + 1) (upd f n x) ++ tl)) := by
  refine Cn.of (own := RX6) (cc := cX6_write) (maxL := 2) (ret := (some .boolean)) (lv := [(0, .ref (q 0)), (1, .int x)]) (by decide) rfl rfl (Nat.le_of_ble_eq_true rfl) rfl ?_
  intro p_ e_ s_ m_ args_ below_ meth_ c_ A_ P_ hp_ F hr_ hnm_
  have hf15_6 : Cond.fieldLink RX6 15 "KeyOnStreet$Page" (TX6 1).2.1 (TX6 1).2.2.1 ∈ wsX6_write := by decide +kernel
  have hi6 : ∀ w ∈ u_ws RX6 TX6 2, w ∈ wsX6_write := by decide +kernel
  have hf9_6 : Cond.fieldLink RX6 9 "KeyOnStreet$Page" (TX6 0).2.1 (TX6 0).2.2.1 ∈ wsX6_write := by decide +kernel
  refine q_aload_n F 0 dX6_write_0 rfl ?_
  refine q_get F (ci := 6) (j := 1) (v := .int (nI n)) (List.mem_append_left _ (List.mem_of_getElem? (i := 0) rfl)) rfl hi6 (by decide) hf15_6 rfl rfl dX6_write_1 ?_
  refine q_bipush F dX6_write_4 (v := nI 30) (by decide) ?_
  refine q_icmp_lt F (tgt := 11) dX6_write_6 (by decide) (fun h_6 => ?_) (fun h_6 => ?_)
  · skip
    have hn_6 : n < 30 := nf_lt_t (by omega) (by omega) h_6
    refine q_aload_n F 0 dX6_write_11 rfl ?_
    refine q_get F (ci := 6) (j := 0) (v := .ref (q 1)) (List.mem_append_left _ (List.mem_of_getElem? (i := 0) rfl)) rfl hi6 (by decide) hf9_6 rfl rfl dX6_write_12 ?_
    refine q_aload_n F 0 dX6_write_15 rfl ?_
    refine q_get F (ci := 6) (j := 1) (v := .int (nI n)) (List.mem_append_left _ (List.mem_of_getElem? (i := 0) rfl)) rfl hi6 (by decide) hf15_6 rfl rfl dX6_write_16 ?_
    refine q_iload_n F 1 dX6_write_19 rfl ?_
    refine q_iast F 1 rfl n rfl (by omega) (by decide) dX6_write_20 (ws' := pC E q n (upd f n x) ++ tl) rfl ?_
    refine q_aload_n F 0 dX6_write_21 rfl ?_
    refine q_dup F dX6_write_22 rfl ?_
    refine q_get F (ci := 6) (j := 1) (v := .int (nI n)) (List.mem_append_left _ (List.mem_of_getElem? (i := 0) rfl)) rfl hi6 (by decide) hf15_6 rfl rfl dX6_write_23 ?_
    refine q_iconst F dX6_write_26 (v := nI 1) (by decide) ?_
    refine q_iadd F dX6_write_27 ?_
    refine q_toi (nI (n + 1)) (nI_add _ _) ?_
    refine q_put F (j := 1) 0 rfl rfl hi6 tyX6 tyX6_ok nmX6 (by decide) hf15_6 rfl rfl rfl rfl (Nat.le_of_ble_eq_true rfl) dX6_write_28 (ws' := pC E q (n + 1) (upd f n x) ++ tl) rfl ?_
    refine q_iconst F dX6_write_31 (v := nI 1) (by decide) ?_
    exact q_zret F hr_ (by decide) dX6_write_32 (hp_ _ _ (Or.inr ⟨by omega, rfl, rfl⟩))
  · skip
    have hn_6 : n ≥ 30 := nf_lt_f (by omega) (by omega) h_6
    refine q_iconst F dX6_write_9 (v := nI 0) (by decide) ?_
    exact q_zret F hr_ (by decide) dX6_write_10 (hp_ _ _ (Or.inl ⟨by omega, rfl, rfl⟩))

set_option maxHeartbeats 4000000 in
set_option maxRecDepth 100000 in
theorem c_X6_housesTold (l : Launch) (E : gEnv) (q : Nat → Nat) (n : Nat) (f : Nat → Int32) (tl : va_W) (hP : isIn (pC E q n f) tl) (hn : n ≤ 30) : Cn l E yX6_housesTold wsX6_housesTold (rmL 0 0 0) [.ref (q 0)] (tl) 0 0 (fun v w => v = some (.int (nI ((n + 1) / 5))) ∧ w = tl) := by
  refine Cn.of (own := RX6) (cc := cX6_housesTold) (maxL := 1) (ret := (some .int)) (lv := [(0, .ref (q 0))]) (by decide) rfl rfl (Nat.le_of_ble_eq_true rfl) rfl ?_
  intro p_ e_ s_ m_ args_ below_ meth_ c_ A_ P_ hp_ F hr_ hnm_
  have hf15_6 : Cond.fieldLink RX6 15 "KeyOnStreet$Page" (TX6 1).2.1 (TX6 1).2.2.1 ∈ wsX6_housesTold := by decide +kernel
  have hi6 : ∀ w ∈ u_ws RX6 TX6 2, w ∈ wsX6_housesTold := by decide +kernel
  refine q_aload_n F 0 dX6_housesTold_0 rfl ?_
  refine q_get F (ci := 6) (j := 1) (v := .int (nI n)) (hP _ (List.mem_of_getElem? (i := 0) rfl)) rfl hi6 (by decide) hf15_6 rfl rfl dX6_housesTold_1 ?_
  refine q_iconst F dX6_housesTold_4 (v := nI 1) (by decide) ?_
  refine q_iadd F dX6_housesTold_5 ?_
  refine q_toi (nI (n + 1)) (nI_add _ _) ?_
  refine q_iconst F dX6_housesTold_6 (v := nI 5) (by decide) ?_
  refine q_idiv F dX6_housesTold_7 (nI_ne0 (by omega) (by omega)) ?_
  refine q_toi (nI ((n + 1) / 5)) (pk_div (by omega) (by omega) (by omega)) ?_
  refine q_iret F hr_ dX6_housesTold_8 (hp_ _ _ ⟨congrArg (fun z => some (Value.int z)) ?_, ?_⟩)
  · first | rfl | simp_all
  · rfl

set_option maxHeartbeats 4000000 in
set_option maxRecDepth 100000 in
theorem c_X6_codeAt (l : Launch) (E : gEnv) (q : Nat → Nat) (n : Nat) (f : Nat → Int32) (tl : va_W) (hP : isIn (pC E q n f) tl) (hn : n ≤ 30) (i : Nat) (hi : i < n) : Cn l E yX6_codeAt wsX6_codeAt (rmL 0 0 0) [.ref (q 0), .int (nI i)] (tl) 0 0 (fun v w => v = some (.int (f i)) ∧ w = tl) := by
  refine Cn.of (own := RX6) (cc := cX6_codeAt) (maxL := 2) (ret := (some .int)) (lv := [(0, .ref (q 0)), (1, .int (nI i))]) (by decide) rfl rfl (Nat.le_of_ble_eq_true rfl) rfl ?_
  intro p_ e_ s_ m_ args_ below_ meth_ c_ A_ P_ hp_ F hr_ hnm_
  have hf15_6 : Cond.fieldLink RX6 15 "KeyOnStreet$Page" (TX6 1).2.1 (TX6 1).2.2.1 ∈ wsX6_codeAt := by decide +kernel
  have hi6 : ∀ w ∈ u_ws RX6 TX6 2, w ∈ wsX6_codeAt := by decide +kernel
  have hf9_6 : Cond.fieldLink RX6 9 "KeyOnStreet$Page" (TX6 0).2.1 (TX6 0).2.2.1 ∈ wsX6_codeAt := by decide +kernel
  refine q_iload_n F 1 dX6_codeAt_0 rfl ?_
  refine q_if_lt F (tgt := 12) dX6_codeAt_1 (by decide) (fun h_1 => ?_) (fun h_1 => ?_)
  · skip
    have hn_1 : i < 0 := nf_lt_t0 (by omega) h_1
    omega
  · skip
    have hn_1 : i ≥ 0 := nf_lt_f0 (by omega) h_1
    refine q_iload_n F 1 dX6_codeAt_4 rfl ?_
    refine q_aload_n F 0 dX6_codeAt_5 rfl ?_
    refine q_get F (ci := 6) (j := 1) (v := .int (nI n)) (hP _ (List.mem_of_getElem? (i := 0) rfl)) rfl hi6 (by decide) hf15_6 rfl rfl dX6_codeAt_6 ?_
    refine q_icmp_lt F (tgt := 16) dX6_codeAt_9 (by decide) (fun h_9 => ?_) (fun h_9 => ?_)
    · skip
      have hn_9 : i < n := nf_lt_t (by omega) (by omega) h_9
      refine q_aload_n F 0 dX6_codeAt_16 rfl ?_
      refine q_get F (ci := 6) (j := 0) (v := .ref (q 1)) (hP _ (List.mem_of_getElem? (i := 0) rfl)) rfl hi6 (by decide) hf9_6 rfl rfl dX6_codeAt_17 ?_
      refine q_iload_n F 1 dX6_codeAt_20 rfl ?_
      refine q_iald F (f := f) (hP _ (List.mem_of_getElem? (i := 1) rfl)) i rfl (by omega) (by decide) dX6_codeAt_21 ?_
      refine q_iret F hr_ dX6_codeAt_22 (hp_ _ _ ⟨congrArg (fun z => some (Value.int z)) ?_, ?_⟩)
      · first | rfl | simp_all
      · rfl
    · skip
      have hn_9 : i ≥ n := nf_lt_f (by omega) (by omega) h_9
      omega

set_option maxHeartbeats 4000000 in
set_option maxRecDepth 100000 in
theorem c_X6_digitAt (l : Launch) (E : gEnv) (q : Nat → Nat) (n : Nat) (f : Nat → Int32) (tl : va_W) (hP : isIn (pC E q n f) tl) (hn : n ≤ 30) (i : Nat) (hi : i < n) : Cn l E yX6_digitAt wsX6_digitAt (rmL 1 0 0) [.ref (q 0), .int (nI i)] (tl) 0 0 (fun v w => v = some (.int (f i - nI 48)) ∧ w = tl) := by
  refine Cn.of (own := RX6) (cc := cX6_digitAt) (maxL := 2) (ret := (some .int)) (lv := [(0, .ref (q 0)), (1, .int (nI i))]) (by decide) rfl rfl (Nat.le_of_ble_eq_true rfl) rfl ?_
  intro p_ e_ s_ m_ args_ below_ meth_ c_ A_ P_ hp_ F hr_ hnm_
  have hd_X6_codeAt : yX6_codeAt.cls = RX6 ∧ yX6_codeAt.cls ≠ "java/lang/invoke/MethodHandle" ∧ yX6_codeAt.cls ≠ "java/lang/invoke/VarHandle" ∧ (parseMethodDescriptor yX6_codeAt.desc).map (fun d => d.parameters.length) = some 1 := by decide +kernel
  refine q_aload_n F 0 dX6_digitAt_0 rfl ?_
  refine q_iload_n F 1 dX6_digitAt_1 rfl ?_
  refine q_callV F (ci := 6) (As := [.int (nI i)]) (rest := []) (hP _ (List.mem_of_getElem? (i := 0) rfl)) rfl (c_X6_codeAt l E q n f tl hP hn i (by omega)) (List.Perm.refl _) gX6_digitAt_X6_codeAt rfl rfl rfl hd_X6_codeAt ⟨by decide, by decide⟩ rfl (Nat.le_of_ble_eq_true rfl) dX6_digitAt_2 ⟨Nat.le_of_ble_eq_true rfl, Nat.le_of_ble_eq_true rfl⟩ (fun v_ w_ hvw => ?_)
  rw [hvw.1, hvw.2]
  clear hvw
  refine q_at (pc' := 5) (st' := [.int (f i)]) (ws' := tl) (k' := 0) (n' := 0) rfl rfl rfl rfl rfl ?_
  refine q_bipush F dX6_digitAt_5 (v := nI 48) (by decide) ?_
  refine q_isub F dX6_digitAt_7 ?_
  refine q_iret F hr_ dX6_digitAt_8 (hp_ _ _ ⟨congrArg (fun z => some (Value.int z)) ?_, ?_⟩)
  · first | rfl | simp_all
  · rfl
