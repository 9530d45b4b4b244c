set_option maxHeartbeats 4000000 in
set_option maxRecDepth 100000 in
theorem c_X0_kind (l : Launch) (E : gEnv) (ws : va_W) (q : Nat) : Cn l E yX0_kind wsX0_kind (rmL 0 0 0) [.ref q] (ws) 0 0 (fun v w => v = some (.int (nI 0)) ∧ w = ws) := by
  refine Cn.of (own := RX0) (cc := cX0_kind) (maxL := 1) (ret := (some .int)) (lv := [(0, .ref q)]) (by decide) rfl rfl (Nat.le_of_ble_eq_true rfl) rfl ?_
  intro p_ e_ s_ m_ args_ below_ meth_ c_ A_ P_ hp_ F hr_ hnm_
  refine q_iconst F dX0_kind_0 (v := nI 0) (by decide) ?_
  refine q_iret F hr_ dX0_kind_1 (hp_ _ _ ⟨congrArg (fun z => some (Value.int z)) ?_, ?_⟩)
  · first | rfl | simp_all
  · rfl

set_option maxHeartbeats 4000000 in
set_option maxRecDepth 100000 in
theorem c_X1_kind (l : Launch) (E : gEnv) (ws : va_W) (q : Nat) : Cn l E yX1_kind wsX1_kind (rmL 0 0 0) [.ref q] (ws) 0 0 (fun v w => v = some (.int (nI 2)) ∧ w = ws) := by
  refine Cn.of (own := RX1) (cc := cX1_kind) (maxL := 1) (ret := (some .int)) (lv := [(0, .ref q)]) (by decide) rfl rfl (Nat.le_of_ble_eq_true rfl) rfl ?_
  intro p_ e_ s_ m_ args_ below_ meth_ c_ A_ P_ hp_ F hr_ hnm_
  refine q_iconst F dX1_kind_0 (v := nI 2) (by decide) ?_
  refine q_iret F hr_ dX1_kind_1 (hp_ _ _ ⟨congrArg (fun z => some (Value.int z)) ?_, ?_⟩)
  · first | rfl | simp_all
  · rfl

set_option maxHeartbeats 4000000 in
set_option maxRecDepth 100000 in
theorem c_X4_kind (l : Launch) (E : gEnv) (ws : va_W) (q : Nat) : Cn l E yX4_kind wsX4_kind (rmL 0 0 0) [.ref q] (ws) 0 0 (fun v w => v = some (.int (nI 1)) ∧ w = ws) := by
  refine Cn.of (own := RX4) (cc := cX4_kind) (maxL := 1) (ret := (some .int)) (lv := [(0, .ref q)]) (by decide) rfl rfl (Nat.le_of_ble_eq_true rfl) rfl ?_
  intro p_ e_ s_ m_ args_ below_ meth_ c_ A_ P_ hp_ F hr_ hnm_
  refine q_iconst F dX4_kind_0 (v := nI 1) (by decide) ?_
  refine q_iret F hr_ dX4_kind_1 (hp_ _ _ ⟨congrArg (fun z => some (Value.int z)) ?_, ?_⟩)
  · first | rfl | simp_all
  · rfl

set_option maxHeartbeats 4000000 in
set_option maxRecDepth 100000 in
theorem c_X9_kind (l : Launch) (E : gEnv) (ws : va_W) (q : Nat) : Cn l E yX9_kind wsX9_kind (rmL 0 0 0) [.ref q] (ws) 0 0 (fun v w => v = some (.int (nI 3)) ∧ w = ws) := by
  refine Cn.of (own := RX9) (cc := cX9_kind) (maxL := 1) (ret := (some .int)) (lv := [(0, .ref q)]) (by decide) rfl rfl (Nat.le_of_ble_eq_true rfl) rfl ?_
  intro p_ e_ s_ m_ args_ below_ meth_ c_ A_ P_ hp_ F hr_ hnm_
  refine q_iconst F dX9_kind_0 (v := nI 3) (by decide) ?_
  refine q_iret F hr_ dX9_kind_1 (hp_ _ _ ⟨congrArg (fun z => some (Value.int z)) ?_, ?_⟩)
  · first | rfl | simp_all
  · rfl

set_option maxHeartbeats 4000000 in
set_option maxRecDepth 100000 in
theorem c_X3_kind (l : Launch) (E : gEnv) (ws : va_W) (q : Nat) : Cn l E yX3_kind wsX3_kind (rmL 0 0 0) [.ref q] (ws) 0 0 (fun v w => v = some (.int (nI 4)) ∧ w = ws) := by
  refine Cn.of (own := RX3) (cc := cX3_kind) (maxL := 1) (ret := (some .int)) (lv := [(0, .ref q)]) (by decide) rfl rfl (Nat.le_of_ble_eq_true rfl) rfl ?_
  intro p_ e_ s_ m_ args_ below_ meth_ c_ A_ P_ hp_ F hr_ hnm_
  refine q_iconst F dX3_kind_0 (v := nI 4) (by decide) ?_
  refine q_iret F hr_ dX3_kind_1 (hp_ _ _ ⟨congrArg (fun z => some (Value.int z)) ?_, ?_⟩)
  · first | rfl | simp_all
  · rfl

set_option maxHeartbeats 4000000 in
set_option maxRecDepth 100000 in
theorem c_X0_openingTakes (l : Launch) (E : gEnv) (ws : va_W) (q : Nat) : Cn l E yX0_openingTakes wsX0_openingTakes (rmL 0 0 0) [.ref q] (ws) 0 0 (fun v w => v = some (.int (nI 1)) ∧ w = ws) := by
  refine Cn.of (own := RX0) (cc := cX0_openingTakes) (maxL := 1) (ret := (some .int)) (lv := [(0, .ref q)]) (by decide) rfl rfl (Nat.le_of_ble_eq_true rfl) rfl ?_
  intro p_ e_ s_ m_ args_ below_ meth_ c_ A_ P_ hp_ F hr_ hnm_
  refine q_iconst F dX0_openingTakes_0 (v := nI 1) (by decide) ?_
  refine q_iret F hr_ dX0_openingTakes_1 (hp_ _ _ ⟨congrArg (fun z => some (Value.int z)) ?_, ?_⟩)
  · first | rfl | simp_all
  · rfl

set_option maxHeartbeats 4000000 in
set_option maxRecDepth 100000 in
theorem c_X9_openingTakes (l : Launch) (E : gEnv) (ws : va_W) (q : Nat) : Cn l E yX9_openingTakes wsX9_openingTakes (rmL 0 0 0) [.ref q] (ws) 0 0 (fun v w => v = some (.int (nI 0)) ∧ w = ws) := by
  refine Cn.of (own := RX9) (cc := cX9_openingTakes) (maxL := 1) (ret := (some .int)) (lv := [(0, .ref q)]) (by decide) rfl rfl (Nat.le_of_ble_eq_true rfl) rfl ?_
  intro p_ e_ s_ m_ args_ below_ meth_ c_ A_ P_ hp_ F hr_ hnm_
  refine q_iconst F dX9_openingTakes_0 (v := nI 0) (by decide) ?_
  refine q_iret F hr_ dX9_openingTakes_1 (hp_ _ _ ⟨congrArg (fun z => some (Value.int z)) ?_, ?_⟩)
  · first | rfl | simp_all
  · rfl

set_option maxHeartbeats 4000000 in
set_option maxRecDepth 100000 in
theorem c_X0_keepsKeyUntil (l : Launch) (E : gEnv) (ws : va_W) (q : Nat) (m : Int32) : Cn l E yX0_keepsKeyUntil wsX0_keepsKeyUntil (rmL 0 0 0) [.ref q, .int m] (ws) 0 0 (fun v w => v = some (.int (nI 0)) ∧ w = ws) := by
  refine Cn.of (own := RX0) (cc := cX0_keepsKeyUntil) (maxL := 2) (ret := (some .int)) (lv := [(0, .ref q), (1, .int m)]) (by decide) rfl rfl (Nat.le_of_ble_eq_true rfl) rfl ?_
  intro p_ e_ s_ m_ args_ below_ meth_ c_ A_ P_ hp_ F hr_ hnm_
  refine q_iconst F dX0_keepsKeyUntil_0 (v := nI 0) (by decide) ?_
  refine q_iret F hr_ dX0_keepsKeyUntil_1 (hp_ _ _ ⟨congrArg (fun z => some (Value.int z)) ?_, ?_⟩)
  · first | rfl | simp_all
  · rfl

set_option maxHeartbeats 4000000 in
set_option maxRecDepth 100000 in
theorem c_X3_keepsKeyUntil (l : Launch) (E : gEnv) (ws : va_W) (q : Nat) (m : Int32) : Cn l E yX3_keepsKeyUntil wsX3_keepsKeyUntil (rmL 0 0 0) [.ref q, .int m] (ws) 0 0 (fun v w => v = some (.int (m + nI 5)) ∧ w = ws) := by
  refine Cn.of (own := RX3) (cc := cX3_keepsKeyUntil) (maxL := 2) (ret := (some .int)) (lv := [(0, .ref q), (1, .int m)]) (by decide) rfl rfl (Nat.le_of_ble_eq_true rfl) rfl ?_
  intro p_ e_ s_ m_ args_ below_ meth_ c_ A_ P_ hp_ F hr_ hnm_
  refine q_iload_n F 1 dX3_keepsKeyUntil_0 rfl ?_
  refine q_iconst F dX3_keepsKeyUntil_1 (v := nI 5) (by decide) ?_
  refine q_iadd F dX3_keepsKeyUntil_2 ?_
  refine q_iret F hr_ dX3_keepsKeyUntil_3 (hp_ _ _ ⟨congrArg (fun z => some (Value.int z)) ?_, ?_⟩)
  · first | rfl | simp_all
  · rfl

set_option maxHeartbeats 4000000 in
set_option maxRecDepth 100000 in
theorem c_X0_lateAt_0 (l : Launch) (E : gEnv) (ws : va_W) (q : Nat) (p l0 n m : Int32) (hq : (q, (.inr (0, [.int p, .int l0, .int n]) : va_E)) ∈ ws) : Cn l E yX0_lateAt wsX0_lateAt (rmL 1 0 0) [.ref q, .int m] (ws) 0 0 (fun v w => v = some (.int (mx (nI 0) (m - nI 4 * l0) * n)) ∧ w = ws) := by
  refine Cn.of (own := RX0) (cc := cX0_lateAt) (maxL := 2) (ret := (some .int)) (lv := [(0, .ref q), (1, .int m)]) (by decide) rfl rfl (Nat.le_of_ble_eq_true rfl) rfl ?_
  intro p_ e_ s_ m_ args_ below_ meth_ c_ A_ P_ hp_ F hr_ hnm_
  have hf13_0 : Cond.fieldLink RX0 13 "KeyOnStreet$House" (TX0 1).2.1 (TX0 1).2.2.1 ∈ wsX0_lateAt := by decide +kernel
  have hi0 : ∀ w ∈ u_ws RX0 TX0 3, w ∈ wsX0_lateAt := by decide +kernel
  have hm19_0 : Cond.methodLink RX0 19 Lib.Math.max.name ∈ wsX0_lateAt := by decide +kernel
  have hm19_1 : Cond.static Lib.Math.max.name ∈ wsX0_lateAt := by decide +kernel
  have hm19_2 : Cond.initialized "java/lang/Math" ∈ wsX0_lateAt := by decide +kernel
  have hm19_3 : Cond.code Lib.Math.max.name Lib.Math.max.code 2 (some .int) ∈ wsX0_lateAt := by decide +kernel
  have hf16_0 : Cond.fieldLink RX0 16 "KeyOnStreet$House" (TX0 2).2.1 (TX0 2).2.2.1 ∈ wsX0_lateAt := by decide +kernel
  refine q_iconst F dX0_lateAt_0 (v := nI 0) (by decide) ?_
  refine q_iload_n F 1 dX0_lateAt_1 rfl ?_
  refine q_iconst F dX0_lateAt_2 (v := nI 4) (by decide) ?_
  refine q_aload_n F 0 dX0_lateAt_3 rfl ?_
  refine q_get F (ci := 0) (j := 1) hq rfl hi0 (by decide) hf13_0 rfl rfl dX0_lateAt_4 ?_
  refine q_imul F dX0_lateAt_7 ?_
  refine q_isub F dX0_lateAt_8 ?_
  refine q_mmax F hm19_0 hm19_1 hm19_2 hm19_3 (by decide) (Nat.le_of_ble_eq_true rfl) (by decide) (by decide) dX0_lateAt_9 ?_
  refine q_toi (mx (nI 0) (m - ((nI 4) * l0))) rfl ?_
  refine q_aload_n F 0 dX0_lateAt_12 rfl ?_
  refine q_get F (ci := 0) (j := 2) hq rfl hi0 (by decide) hf16_0 rfl rfl dX0_lateAt_13 ?_
  refine q_imul F dX0_lateAt_16 ?_
  refine q_iret F hr_ dX0_lateAt_17 (hp_ _ _ ⟨congrArg (fun z => some (Value.int z)) ?_, ?_⟩)
  · first | rfl | simp_all
  · rfl

set_option maxHeartbeats 4000000 in
set_option maxRecDepth 100000 in
theorem c_X0_lateAt_3 (l : Launch) (E : gEnv) (ws : va_W) (q : Nat) (p l0 n m : Int32) (hq : (q, (.inr (3, [.int p, .int l0, .int n]) : va_E)) ∈ ws) : Cn l E yX0_lateAt wsX0_lateAt (rmL 1 0 0) [.ref q, .int m] (ws) 0 0 (fun v w => v = some (.int (mx (nI 0) (m - nI 4 * l0) * n)) ∧ w = ws) := by
  refine Cn.of (own := RX0) (cc := cX0_lateAt) (maxL := 2) (ret := (some .int)) (lv := [(0, .ref q), (1, .int m)]) (by decide) rfl rfl (Nat.le_of_ble_eq_true rfl) rfl ?_
  intro p_ e_ s_ m_ args_ below_ meth_ c_ A_ P_ hp_ F hr_ hnm_
  have hf13_3 : Cond.fieldLink RX0 13 "KeyOnStreet$House" (TX3 1).2.1 (TX3 1).2.2.1 ∈ wsX0_lateAt := by decide +kernel
  have hi3 : ∀ w ∈ u_ws RX3 TX3 3, w ∈ wsX0_lateAt := by decide +kernel
  have hm19_0 : Cond.methodLink RX0 19 Lib.Math.max.name ∈ wsX0_lateAt := by decide +kernel
  have hm19_1 : Cond.static Lib.Math.max.name ∈ wsX0_lateAt := by decide +kernel
  have hm19_2 : Cond.initialized "java/lang/Math" ∈ wsX0_lateAt := by decide +kernel
  have hm19_3 : Cond.code Lib.Math.max.name Lib.Math.max.code 2 (some .int) ∈ wsX0_lateAt := by decide +kernel
  have hf16_3 : Cond.fieldLink RX0 16 "KeyOnStreet$House" (TX3 2).2.1 (TX3 2).2.2.1 ∈ wsX0_lateAt := by decide +kernel
  refine q_iconst F dX0_lateAt_0 (v := nI 0) (by decide) ?_
  refine q_iload_n F 1 dX0_lateAt_1 rfl ?_
  refine q_iconst F dX0_lateAt_2 (v := nI 4) (by decide) ?_
  refine q_aload_n F 0 dX0_lateAt_3 rfl ?_
  refine q_get F (ci := 3) (j := 1) hq rfl hi3 (by decide) hf13_3 rfl rfl dX0_lateAt_4 ?_
  refine q_imul F dX0_lateAt_7 ?_
  refine q_isub F dX0_lateAt_8 ?_
  refine q_mmax F hm19_0 hm19_1 hm19_2 hm19_3 (by decide) (Nat.le_of_ble_eq_true rfl) (by decide) (by decide) dX0_lateAt_9 ?_
  refine q_toi (mx (nI 0) (m - ((nI 4) * l0))) rfl ?_
  refine q_aload_n F 0 dX0_lateAt_12 rfl ?_
  refine q_get F (ci := 3) (j := 2) hq rfl hi3 (by decide) hf16_3 rfl rfl dX0_lateAt_13 ?_
  refine q_imul F dX0_lateAt_16 ?_
  refine q_iret F hr_ dX0_lateAt_17 (hp_ _ _ ⟨congrArg (fun z => some (Value.int z)) ?_, ?_⟩)
  · first | rfl | simp_all
  · rfl

set_option maxHeartbeats 4000000 in
set_option maxRecDepth 100000 in
theorem c_X0_lateAt_4 (l : Launch) (E : gEnv) (ws : va_W) (q : Nat) (p l0 n m : Int32) (hq : (q, (.inr (4, [.int p, .int l0, .int n]) : va_E)) ∈ ws) : Cn l E yX0_lateAt wsX0_lateAt (rmL 1 0 0) [.ref q, .int m] (ws) 0 0 (fun v w => v = some (.int (mx (nI 0) (m - nI 4 * l0) * n)) ∧ w = ws) := by
  refine Cn.of (own := RX0) (cc := cX0_lateAt) (maxL := 2) (ret := (some .int)) (lv := [(0, .ref q), (1, .int m)]) (by decide) rfl rfl (Nat.le_of_ble_eq_true rfl) rfl ?_
  intro p_ e_ s_ m_ args_ below_ meth_ c_ A_ P_ hp_ F hr_ hnm_
  have hf13_4 : Cond.fieldLink RX0 13 "KeyOnStreet$House" (TX4 1).2.1 (TX4 1).2.2.1 ∈ wsX0_lateAt := by decide +kernel
  have hi4 : ∀ w ∈ u_ws RX4 TX4 3, w ∈ wsX0_lateAt := by decide +kernel
  have hm19_0 : Cond.methodLink RX0 19 Lib.Math.max.name ∈ wsX0_lateAt := by decide +kernel
  have hm19_1 : Cond.static Lib.Math.max.name ∈ wsX0_lateAt := by decide +kernel
  have hm19_2 : Cond.initialized "java/lang/Math" ∈ wsX0_lateAt := by decide +kernel
  have hm19_3 : Cond.code Lib.Math.max.name Lib.Math.max.code 2 (some .int) ∈ wsX0_lateAt := by decide +kernel
  have hf16_4 : Cond.fieldLink RX0 16 "KeyOnStreet$House" (TX4 2).2.1 (TX4 2).2.2.1 ∈ wsX0_lateAt := by decide +kernel
  refine q_iconst F dX0_lateAt_0 (v := nI 0) (by decide) ?_
  refine q_iload_n F 1 dX0_lateAt_1 rfl ?_
  refine q_iconst F dX0_lateAt_2 (v := nI 4) (by decide) ?_
  refine q_aload_n F 0 dX0_lateAt_3 rfl ?_
  refine q_get F (ci := 4) (j := 1) hq rfl hi4 (by decide) hf13_4 rfl rfl dX0_lateAt_4 ?_
  refine q_imul F dX0_lateAt_7 ?_
  refine q_isub F dX0_lateAt_8 ?_
  refine q_mmax F hm19_0 hm19_1 hm19_2 hm19_3 (by decide) (Nat.le_of_ble_eq_true rfl) (by decide) (by decide) dX0_lateAt_9 ?_
  refine q_toi (mx (nI 0) (m - ((nI 4) * l0))) rfl ?_
  refine q_aload_n F 0 dX0_lateAt_12 rfl ?_
  refine q_get F (ci := 4) (j := 2) hq rfl hi4 (by decide) hf16_4 rfl rfl dX0_lateAt_13 ?_
  refine q_imul F dX0_lateAt_16 ?_
  refine q_iret F hr_ dX0_lateAt_17 (hp_ _ _ ⟨congrArg (fun z => some (Value.int z)) ?_, ?_⟩)
  · first | rfl | simp_all
  · rfl

set_option maxHeartbeats 4000000 in
set_option maxRecDepth 100000 in
theorem c_X0_lateAt_9 (l : Launch) (E : gEnv) (ws : va_W) (q : Nat) (p l0 n m : Int32) (hq : (q, (.inr (9, [.int p, .int l0, .int n]) : va_E)) ∈ ws) : Cn l E yX0_lateAt wsX0_lateAt (rmL 1 0 0) [.ref q, .int m] (ws) 0 0 (fun v w => v = some (.int (mx (nI 0) (m - nI 4 * l0) * n)) ∧ w = ws) := by
  refine Cn.of (own := RX0) (cc := cX0_lateAt) (maxL := 2) (ret := (some .int)) (lv := [(0, .ref q), (1, .int m)]) (by decide) rfl rfl (Nat.le_of_ble_eq_true rfl) rfl ?_
  intro p_ e_ s_ m_ args_ below_ meth_ c_ A_ P_ hp_ F hr_ hnm_
  have hf13_9 : Cond.fieldLink RX0 13 "KeyOnStreet$House" (TX9 1).2.1 (TX9 1).2.2.1 ∈ wsX0_lateAt := by decide +kernel
  have hi9 : ∀ w ∈ u_ws RX9 TX9 3, w ∈ wsX0_lateAt := by decide +kernel
  have hm19_0 : Cond.methodLink RX0 19 Lib.Math.max.name ∈ wsX0_lateAt := by decide +kernel
  have hm19_1 : Cond.static Lib.Math.max.name ∈ wsX0_lateAt := by decide +kernel
  have hm19_2 : Cond.initialized "java/lang/Math" ∈ wsX0_lateAt := by decide +kernel
  have hm19_3 : Cond.code Lib.Math.max.name Lib.Math.max.code 2 (some .int) ∈ wsX0_lateAt := by decide +kernel
  have hf16_9 : Cond.fieldLink RX0 16 "KeyOnStreet$House" (TX9 2).2.1 (TX9 2).2.2.1 ∈ wsX0_lateAt := by decide +kernel
  refine q_iconst F dX0_lateAt_0 (v := nI 0) (by decide) ?_
  refine q_iload_n F 1 dX0_lateAt_1 rfl ?_
  refine q_iconst F dX0_lateAt_2 (v := nI 4) (by decide) ?_
  refine q_aload_n F 0 dX0_lateAt_3 rfl ?_
  refine q_get F (ci := 9) (j := 1) hq rfl hi9 (by decide) hf13_9 rfl rfl dX0_lateAt_4 ?_
  refine q_imul F dX0_lateAt_7 ?_
  refine q_isub F dX0_lateAt_8 ?_
  refine q_mmax F hm19_0 hm19_1 hm19_2 hm19_3 (by decide) (Nat.le_of_ble_eq_true rfl) (by decide) (by decide) dX0_lateAt_9 ?_
  refine q_toi (mx (nI 0) (m - ((nI 4) * l0))) rfl ?_
  refine q_aload_n F 0 dX0_lateAt_12 rfl ?_
  refine q_get F (ci := 9) (j := 2) hq rfl hi9 (by decide) hf16_9 rfl rfl dX0_lateAt_13 ?_
  refine q_imul F dX0_lateAt_16 ?_
  refine q_iret F hr_ dX0_lateAt_17 (hp_ _ _ ⟨congrArg (fun z => some (Value.int z)) ?_, ?_⟩)
  · first | rfl | simp_all
  · rfl

set_option maxHeartbeats 4000000 in
set_option maxRecDepth 100000 in
theorem c_X1_lateAt (l : Launch) (E : gEnv) (ws : va_W) (q : Nat) (m : Int32) : Cn l E yX1_lateAt wsX1_lateAt (rmL 0 0 0) [.ref q, .int m] (ws) 0 0 (fun v w => v = some (.int (nI 0)) ∧ w = ws) := by
  refine Cn.of (own := RX1) (cc := cX1_lateAt) (maxL := 2) (ret := (some .int)) (lv := [(0, .ref q), (1, .int m)]) (by decide) rfl rfl (Nat.le_of_ble_eq_true rfl) rfl ?_
  intro p_ e_ s_ m_ args_ below_ meth_ c_ A_ P_ hp_ F hr_ hnm_
  refine q_iconst F dX1_lateAt_0 (v := nI 0) (by decide) ?_
  refine q_iret F hr_ dX1_lateAt_1 (hp_ _ _ ⟨congrArg (fun z => some (Value.int z)) ?_, ?_⟩)
  · first | rfl | simp_all
  · rfl

set_option maxHeartbeats 4000000 in
set_option maxRecDepth 100000 in
theorem c_X0_sleepersOut_0 (l : Launch) (E : gEnv) (ws : va_W) (q : Nat) (p l0 n : Int32) (hq : (q, (.inr (0, [.int p, .int l0, .int n]) : va_E)) ∈ ws) : Cn l E yX0_sleepersOut wsX0_sleepersOut (rmL 0 0 0) [.ref q] (ws) 0 0 (fun v w => v = some (.int n) ∧ w = ws) := by
  refine Cn.of (own := RX0) (cc := cX0_sleepersOut) (maxL := 1) (ret := (some .int)) (lv := [(0, .ref q)]) (by decide) rfl rfl (Nat.le_of_ble_eq_true rfl) rfl ?_
  intro p_ e_ s_ m_ args_ below_ meth_ c_ A_ P_ hp_ F hr_ hnm_
  have hf16_0 : Cond.fieldLink RX0 16 "KeyOnStreet$House" (TX0 2).2.1 (TX0 2).2.2.1 ∈ wsX0_sleepersOut := by decide +kernel
  have hi0 : ∀ w ∈ u_ws RX0 TX0 3, w ∈ wsX0_sleepersOut := by decide +kernel
  refine q_aload_n F 0 dX0_sleepersOut_0 rfl ?_
  refine q_get F (ci := 0) (j := 2) hq rfl hi0 (by decide) hf16_0 rfl rfl dX0_sleepersOut_1 ?_
  refine q_iret F hr_ dX0_sleepersOut_4 (hp_ _ _ ⟨congrArg (fun z => some (Value.int z)) ?_, ?_⟩)
  · first | rfl | simp_all
  · rfl

set_option maxHeartbeats 4000000 in
set_option maxRecDepth 100000 in
theorem c_X0_sleepersOut_3 (l : Launch) (E : gEnv) (ws : va_W) (q : Nat) (p l0 n : Int32) (hq : (q, (.inr (3, [.int p, .int l0, .int n]) : va_E)) ∈ ws) : Cn l E yX0_sleepersOut wsX0_sleepersOut (rmL 0 0 0) [.ref q] (ws) 0 0 (fun v w => v = some (.int n) ∧ w = ws) := by
  refine Cn.of (own := RX0) (cc := cX0_sleepersOut) (maxL := 1) (ret := (some .int)) (lv := [(0, .ref q)]) (by decide) rfl rfl (Nat.le_of_ble_eq_true rfl) rfl ?_
  intro p_ e_ s_ m_ args_ below_ meth_ c_ A_ P_ hp_ F hr_ hnm_
  have hf16_3 : Cond.fieldLink RX0 16 "KeyOnStreet$House" (TX3 2).2.1 (TX3 2).2.2.1 ∈ wsX0_sleepersOut := by decide +kernel
  have hi3 : ∀ w ∈ u_ws RX3 TX3 3, w ∈ wsX0_sleepersOut := by decide +kernel
  refine q_aload_n F 0 dX0_sleepersOut_0 rfl ?_
  refine q_get F (ci := 3) (j := 2) hq rfl hi3 (by decide) hf16_3 rfl rfl dX0_sleepersOut_1 ?_
  refine q_iret F hr_ dX0_sleepersOut_4 (hp_ _ _ ⟨congrArg (fun z => some (Value.int z)) ?_, ?_⟩)
  · first | rfl | simp_all
  · rfl

set_option maxHeartbeats 4000000 in
set_option maxRecDepth 100000 in
theorem c_X0_sleepersOut_4 (l : Launch) (E : gEnv) (ws : va_W) (q : Nat) (p l0 n : Int32) (hq : (q, (.inr (4, [.int p, .int l0, .int n]) : va_E)) ∈ ws) : Cn l E yX0_sleepersOut wsX0_sleepersOut (rmL 0 0 0) [.ref q] (ws) 0 0 (fun v w => v = some (.int n) ∧ w = ws) := by
  refine Cn.of (own := RX0) (cc := cX0_sleepersOut) (maxL := 1) (ret := (some .int)) (lv := [(0, .ref q)]) (by decide) rfl rfl (Nat.le_of_ble_eq_true rfl) rfl ?_
  intro p_ e_ s_ m_ args_ below_ meth_ c_ A_ P_ hp_ F hr_ hnm_
  have hf16_4 : Cond.fieldLink RX0 16 "KeyOnStreet$House" (TX4 2).2.1 (TX4 2).2.2.1 ∈ wsX0_sleepersOut := by decide +kernel
  have hi4 : ∀ w ∈ u_ws RX4 TX4 3, w ∈ wsX0_sleepersOut := by decide +kernel
  refine q_aload_n F 0 dX0_sleepersOut_0 rfl ?_
  refine q_get F (ci := 4) (j := 2) hq rfl hi4 (by decide) hf16_4 rfl rfl dX0_sleepersOut_1 ?_
  refine q_iret F hr_ dX0_sleepersOut_4 (hp_ _ _ ⟨congrArg (fun z => some (Value.int z)) ?_, ?_⟩)
  · first | rfl | simp_all
  · rfl

set_option maxHeartbeats 4000000 in
set_option maxRecDepth 100000 in
theorem c_X0_sleepersOut_9 (l : Launch) (E : gEnv) (ws : va_W) (q : Nat) (p l0 n : Int32) (hq : (q, (.inr (9, [.int p, .int l0, .int n]) : va_E)) ∈ ws) : Cn l E yX0_sleepersOut wsX0_sleepersOut (rmL 0 0 0) [.ref q] (ws) 0 0 (fun v w => v = some (.int n) ∧ w = ws) := by
  refine Cn.of (own := RX0) (cc := cX0_sleepersOut) (maxL := 1) (ret := (some .int)) (lv := [(0, .ref q)]) (by decide) rfl rfl (Nat.le_of_ble_eq_true rfl) rfl ?_
  intro p_ e_ s_ m_ args_ below_ meth_ c_ A_ P_ hp_ F hr_ hnm_
  have hf16_9 : Cond.fieldLink RX0 16 "KeyOnStreet$House" (TX9 2).2.1 (TX9 2).2.2.1 ∈ wsX0_sleepersOut := by decide +kernel
  have hi9 : ∀ w ∈ u_ws RX9 TX9 3, w ∈ wsX0_sleepersOut := by decide +kernel
  refine q_aload_n F 0 dX0_sleepersOut_0 rfl ?_
  refine q_get F (ci := 9) (j := 2) hq rfl hi9 (by decide) hf16_9 rfl rfl dX0_sleepersOut_1 ?_
  refine q_iret F hr_ dX0_sleepersOut_4 (hp_ _ _ ⟨congrArg (fun z => some (Value.int z)) ?_, ?_⟩)
  · first | rfl | simp_all
  · rfl

set_option maxHeartbeats 4000000 in
set_option maxRecDepth 100000 in
theorem c_X1_sleepersOut (l : Launch) (E : gEnv) (ws : va_W) (q : Nat) : Cn l E yX1_sleepersOut wsX1_sleepersOut (rmL 0 0 0) [.ref q] (ws) 0 0 (fun v w => v = some (.int (nI 0)) ∧ w = ws) := by
  refine Cn.of (own := RX1) (cc := cX1_sleepersOut) (maxL := 1) (ret := (some .int)) (lv := [(0, .ref q)]) (by decide) rfl rfl (Nat.le_of_ble_eq_true rfl) rfl ?_
  intro p_ e_ s_ m_ args_ below_ meth_ c_ A_ P_ hp_ F hr_ hnm_
  refine q_iconst F dX1_sleepersOut_0 (v := nI 0) (by decide) ?_
  refine q_iret F hr_ dX1_sleepersOut_1 (hp_ _ _ ⟨congrArg (fun z => some (Value.int z)) ?_, ?_⟩)
  · first | rfl | simp_all
  · rfl

set_option maxHeartbeats 4000000 in
set_option maxRecDepth 100000 in
theorem c_X2_put (l : Launch) (E : gEnv) (q : Nat) (p m u p2 m2 u2 : Int32) (tl : va_W) : Cn l E yX2_put wsX2_put (rmL 0 0 0) [.ref q, .int p2, .int m2, .int u2] (kC q p m u ++ tl) 0 0 (fun v w => v = none ∧ w = kC q p2 m2 u2 ++ tl) := by
  refine Cn.of (own := RX2) (cc := cX2_put) (maxL := 4) (ret := none) (lv := [(0, .ref q), (1, .int p2), (2, .int m2), (3, .int u2)]) (by decide) rfl rfl (Nat.le_of_ble_eq_true rfl) rfl ?_
  intro p_ e_ s_ m_ args_ below_ meth_ c_ A_ P_ hp_ F hr_ hnm_
  have hf7_2 : Cond.fieldLink RX2 7 "KeyOnStreet$Key" (TX2 0).2.1 (TX2 0).2.2.1 ∈ wsX2_put := by decide +kernel
  have hi2 : ∀ w ∈ u_ws RX2 TX2 3, w ∈ wsX2_put := by decide +kernel
  have hf13_2 : Cond.fieldLink RX2 13 "KeyOnStreet$Key" (TX2 1).2.1 (TX2 1).2.2.1 ∈ wsX2_put := by decide +kernel
  have hf16_2 : Cond.fieldLink RX2 16 "KeyOnStreet$Key" (TX2 2).2.1 (TX2 2).2.2.1 ∈ wsX2_put := by decide +kernel
  refine q_aload_n F 0 dX2_put_0 rfl ?_
  refine q_iload_n F 1 dX2_put_1 rfl ?_
  refine q_put F (j := 0) 0 rfl rfl hi2 tyX2 tyX2_ok nmX2 (by decide) hf7_2 rfl rfl rfl rfl (Nat.le_of_ble_eq_true rfl) dX2_put_2 (ws' := kC q p2 m u ++ tl) rfl ?_
  refine q_aload_n F 0 dX2_put_5 rfl ?_
  refine q_iload_n F 2 dX2_put_6 rfl ?_
  refine q_put F (j := 1) 0 rfl rfl hi2 tyX2 tyX2_ok nmX2 (by decide) hf13_2 rfl rfl rfl rfl (Nat.le_of_ble_eq_true rfl) dX2_put_7 (ws' := kC q p2 m2 u ++ tl) rfl ?_
  refine q_aload_n F 0 dX2_put_10 rfl ?_
  refine q_iload_n F 3 dX2_put_11 rfl ?_
  refine q_put F (j := 2) 0 rfl rfl hi2 tyX2 tyX2_ok nmX2 (by decide) hf16_2 rfl rfl rfl rfl (Nat.le_of_ble_eq_true rfl) dX2_put_12 (ws' := kC q p2 m2 u2 ++ tl) rfl ?_
  refine q_vret F hr_ dX2_put_15 (hp_ _ _ ⟨rfl, ?_⟩)
  rfl

set_option maxHeartbeats 4000000 in
set_option maxRecDepth 100000 in
theorem c_X2_copyFrom (l : Launch) (E : gEnv) (q o : Nat) (p m u p2 m2 u2 : Int32) (tl : va_W) (ho : (o, (.inr (2, [.int p2, .int m2, .int u2]) : va_E)) ∈ tl) : Cn l E yX2_copyFrom wsX2_copyFrom (rmL 1 0 0) [.ref q, .ref o] (kC q p m u ++ tl) 0 0 (fun v w => v = none ∧ w = kC q p2 m2 u2 ++ tl) := by
  refine Cn.of (own := RX2) (cc := cX2_copyFrom) (maxL := 2) (ret := none) (lv := [(0, .ref q), (1, .ref o)]) (by decide) rfl rfl (Nat.le_of_ble_eq_true rfl) rfl ?_
  intro p_ e_ s_ m_ args_ below_ meth_ c_ A_ P_ hp_ F hr_ hnm_
  have hf7_2 : Cond.fieldLink RX2 7 "KeyOnStreet$Key" (TX2 0).2.1 (TX2 0).2.2.1 ∈ wsX2_copyFrom := by decide +kernel
  have hi2 : ∀ w ∈ u_ws RX2 TX2 3, w ∈ wsX2_copyFrom := by decide +kernel
  have hf13_2 : Cond.fieldLink RX2 13 "KeyOnStreet$Key" (TX2 1).2.1 (TX2 1).2.2.1 ∈ wsX2_copyFrom := by decide +kernel
  have hf16_2 : Cond.fieldLink RX2 16 "KeyOnStreet$Key" (TX2 2).2.1 (TX2 2).2.2.1 ∈ wsX2_copyFrom := by decide +kernel
  have hd_X2_put : yX2_put.cls = RX2 ∧ yX2_put.cls ≠ "java/lang/invoke/MethodHandle" ∧ yX2_put.cls ≠ "java/lang/invoke/VarHandle" ∧ (parseMethodDescriptor yX2_put.desc).map (fun d => d.parameters.length) = some 3 := by decide +kernel
  refine q_aload_n F 0 dX2_copyFrom_0 rfl ?_
  refine q_aload_n F 1 dX2_copyFrom_1 rfl ?_
  refine q_get F (ci := 2) (j := 0) (List.mem_append_right _ ho) rfl hi2 (by decide) hf7_2 rfl rfl dX2_copyFrom_2 ?_
  refine q_aload_n F 1 dX2_copyFrom_5 rfl ?_
  refine q_get F (ci := 2) (j := 1) (List.mem_append_right _ ho) rfl hi2 (by decide) hf13_2 rfl rfl dX2_copyFrom_6 ?_
  refine q_aload_n F 1 dX2_copyFrom_9 rfl ?_
  refine q_get F (ci := 2) (j := 2) (List.mem_append_right _ ho) rfl hi2 (by decide) hf16_2 rfl rfl dX2_copyFrom_10 ?_
  refine q_callV F (ci := 2) (As := [.int p2, .int m2, .int u2]) (rest := []) (List.mem_append_left _ (List.mem_of_getElem? (i := 0) rfl)) rfl (c_X2_put l E q p m u p2 m2 u2 _) (List.Perm.refl _) gX2_copyFrom_X2_put rfl rfl rfl hd_X2_put ⟨by decide, by decide⟩ rfl (Nat.le_of_ble_eq_true rfl) dX2_copyFrom_13 ⟨by decide, by decide⟩ (fun v_ w_ hvw => ?_)
  rw [hvw.1, hvw.2]
  clear hvw
  refine q_at (pc' := 16) (st' := []) (ws' := kC q p2 m2 u2 ++ tl) (k' := 0) (n' := 0) rfl rfl rfl rfl rfl ?_
  refine q_vret F hr_ dX2_copyFrom_16 (hp_ _ _ ⟨rfl, ?_⟩)
  rfl

set_option maxHeartbeats 4000000 in
set_option maxRecDepth 100000 in
theorem c_X2_bringTo_k0 (l : Launch) (E : gEnv) (q h : Nat) (p m u hp hl hn : Int32) (tl : va_W) (hh : (h, (.inr (0, [.int hp, .int hl, .int hn]) : va_E)) ∈ tl) : Cn l E yX2_bringTo wsX2_bringTo (rmL 2 0 0) [.ref q, .ref h] (kC q p m u ++ tl) 0 0 (fun v w => v = none ∧ w = kC q hp (brg 0 hp p m u) (kpu 0 (brg 0 hp p m u)) ++ tl) := by
  refine Cn.of (own := RX2) (cc := cX2_bringTo) (maxL := 5) (ret := none) (lv := [(0, .ref q), (1, .ref h)]) (by decide) rfl rfl (Nat.le_of_ble_eq_true rfl) rfl ?_
  intro p_ e_ s_ m_ args_ below_ meth_ c_ A_ P_ hp_ F hr_ hnm_
  have hf13_2 : Cond.fieldLink RX2 13 "KeyOnStreet$Key" (TX2 1).2.1 (TX2 1).2.2.1 ∈ wsX2_bringTo := by decide +kernel
  have hi2 : ∀ w ∈ u_ws RX2 TX2 3, w ∈ wsX2_bringTo := by decide +kernel
  have hf16_2 : Cond.fieldLink RX2 16 "KeyOnStreet$Key" (TX2 2).2.1 (TX2 2).2.2.1 ∈ wsX2_bringTo := by decide +kernel
  have hm23_0 : Cond.methodLink RX2 23 Lib.Math.max.name ∈ wsX2_bringTo := by decide +kernel
  have hm23_1 : Cond.static Lib.Math.max.name ∈ wsX2_bringTo := by decide +kernel
  have hm23_2 : Cond.initialized "java/lang/Math" ∈ wsX2_bringTo := by decide +kernel
  have hm23_3 : Cond.code Lib.Math.max.name Lib.Math.max.code 2 (some .int) ∈ wsX2_bringTo := by decide +kernel
  have hf7_2 : Cond.fieldLink RX2 7 "KeyOnStreet$Key" (TX2 0).2.1 (TX2 0).2.2.1 ∈ wsX2_bringTo := by decide +kernel
  have hf29_0 : Cond.fieldLink RX2 29 "KeyOnStreet$House" (TX0 0).2.1 (TX0 0).2.2.1 ∈ wsX2_bringTo := by decide +kernel
  have hi0 : ∀ w ∈ u_ws RX0 TX0 3, w ∈ wsX2_bringTo := by decide +kernel
  have hm32_0 : Cond.methodLink RX2 32 Lib.Math.abs.name ∈ wsX2_bringTo := by decide +kernel
  have hm32_1 : Cond.static Lib.Math.abs.name ∈ wsX2_bringTo := by decide +kernel
  have hm32_2 : Cond.initialized "java/lang/Math" ∈ wsX2_bringTo := by decide +kernel
  have hm32_3 : Cond.code Lib.Math.abs.name Lib.Math.abs.code 1 (some .int) ∈ wsX2_bringTo := by decide +kernel
  have hd_X0_openingTakes : yX0_openingTakes.cls = RX0 ∧ yX0_openingTakes.cls ≠ "java/lang/invoke/MethodHandle" ∧ yX0_openingTakes.cls ≠ "java/lang/invoke/VarHandle" ∧ (parseMethodDescriptor yX0_openingTakes.desc).map (fun d => d.parameters.length) = some 0 := by decide +kernel
  have hd_X0_keepsKeyUntil : yX0_keepsKeyUntil.cls = RX0 ∧ yX0_keepsKeyUntil.cls ≠ "java/lang/invoke/MethodHandle" ∧ yX0_keepsKeyUntil.cls ≠ "java/lang/invoke/VarHandle" ∧ (parseMethodDescriptor yX0_keepsKeyUntil.desc).map (fun d => d.parameters.length) = some 1 := by decide +kernel
  have hd_X2_put : yX2_put.cls = RX2 ∧ yX2_put.cls ≠ "java/lang/invoke/MethodHandle" ∧ yX2_put.cls ≠ "java/lang/invoke/VarHandle" ∧ (parseMethodDescriptor yX2_put.desc).map (fun d => d.parameters.length) = some 3 := by decide +kernel
  refine q_aload_n F 0 dX2_bringTo_0 rfl ?_
  refine q_get F (ci := 2) (j := 1) (List.mem_append_left _ (List.mem_of_getElem? (i := 0) rfl)) rfl hi2 (by decide) hf13_2 rfl rfl dX2_bringTo_1 ?_
  refine q_aload_n F 0 dX2_bringTo_4 rfl ?_
  refine q_get F (ci := 2) (j := 2) (List.mem_append_left _ (List.mem_of_getElem? (i := 0) rfl)) rfl hi2 (by decide) hf16_2 rfl rfl dX2_bringTo_5 ?_
  refine q_mmax F hm23_0 hm23_1 hm23_2 hm23_3 (by decide) (Nat.le_of_ble_eq_true rfl) (by decide) (by decide) dX2_bringTo_8 ?_
  refine q_toi (mx m u) rfl ?_
  refine q_istore_n F (lv' := [(2, .int (mx m u)), (0, .ref q), (1, .ref h)]) dX2_bringTo_11 (by decide) rfl ?_
  refine q_aload_n F 1 dX2_bringTo_12 rfl ?_
  refine q_get F (ci := 2) (j := 0) (List.mem_append_left _ (List.mem_of_getElem? (i := 0) rfl)) rfl hi2 (by decide) hf7_2 rfl rfl dX2_bringTo_13 ?_
  refine q_aload_n F 2 dX2_bringTo_16 rfl ?_
  refine q_get F (ci := 0) (j := 0) (List.mem_append_right _ hh) rfl hi0 (by decide) hf29_0 rfl rfl dX2_bringTo_17 ?_
  refine q_isub F dX2_bringTo_20 ?_
  refine q_mabs F hm32_0 hm32_1 hm32_2 hm32_3 (by decide) (Nat.le_of_ble_eq_true rfl) (by decide) (by decide) dX2_bringTo_21 ?_
  refine q_toi (ab (p - hp)) rfl ?_
  refine q_istore_n F (lv' := [(3, .int (ab (p - hp))), (2, .int (mx m u)), (0, .ref q), (1, .ref h)]) dX2_bringTo_24 (by decide) rfl ?_
  refine q_iload_n F 1 dX2_bringTo_25 rfl ?_
  refine q_iload_n F 0 dX2_bringTo_26 rfl ?_
  refine q_iadd F dX2_bringTo_27 ?_
  refine q_aload_n F 3 dX2_bringTo_28 rfl ?_
  refine q_callV F (ci := 0) (As := []) (rest := [.int ((mx m u) + (ab (p - hp)))]) (List.mem_append_right _ hh) rfl (c_X0_openingTakes l E _ h) (List.Perm.refl _) gX2_bringTo_X0_openingTakes rfl rfl rfl hd_X0_openingTakes ⟨by decide, by decide⟩ rfl (Nat.le_of_ble_eq_true rfl) dX2_bringTo_29 ⟨by decide, by decide⟩ (fun v_ w_ hvw => ?_)
  rw [hvw.1, hvw.2]
  clear hvw
  refine q_at (pc' := 32) (st' := [.int (nI 1), .int ((mx m u) + (ab (p - hp)))]) (ws' := kC q p m u ++ tl) (k' := 0) (n' := 0) rfl rfl rfl rfl rfl ?_
  refine q_iadd F dX2_bringTo_32 ?_
  refine q_istore F (lv' := [(4, .int (((mx m u) + (ab (p - hp))) + (nI 1))), (3, .int (ab (p - hp))), (2, .int (mx m u)), (0, .ref q), (1, .ref h)]) dX2_bringTo_33 (by decide) rfl ?_
  refine q_aload_n F 3 dX2_bringTo_35 rfl ?_
  refine q_aload_n F 4 dX2_bringTo_36 rfl ?_
  refine q_get F (ci := 0) (j := 0) (List.mem_append_right _ hh) rfl hi0 (by decide) hf29_0 rfl rfl dX2_bringTo_37 ?_
  refine q_iload F 0 dX2_bringTo_40 rfl ?_
  refine q_aload_n F 4 dX2_bringTo_42 rfl ?_
  refine q_iload F 0 dX2_bringTo_43 rfl ?_
  refine q_callV F (ci := 0) (As := [.int (((mx m u) + (ab (p - hp))) + (nI 1))]) (rest := [.int (((mx m u) + (ab (p - hp))) + (nI 1)), .int hp, .ref q]) (List.mem_append_right _ hh) rfl (c_X0_keepsKeyUntil l E _ h (((mx m u) + (ab (p - hp))) + (nI 1))) (List.Perm.refl _) gX2_bringTo_X0_keepsKeyUntil rfl rfl rfl hd_X0_keepsKeyUntil ⟨by decide, by decide⟩ rfl (Nat.le_of_ble_eq_true rfl) dX2_bringTo_45 ⟨by decide, by decide⟩ (fun v_ w_ hvw => ?_)
  rw [hvw.1, hvw.2]
  clear hvw
  refine q_at (pc' := 48) (st' := [.int (nI 0), .int (((mx m u) + (ab (p - hp))) + (nI 1)), .int hp, .ref q]) (ws' := kC q p m u ++ tl) (k' := 0) (n' := 0) rfl rfl rfl rfl rfl ?_
  refine q_callV F (ci := 2) (As := [.int hp, .int (((mx m u) + (ab (p - hp))) + (nI 1)), .int (nI 0)]) (rest := []) (List.mem_append_left _ (List.mem_of_getElem? (i := 0) rfl)) rfl (c_X2_put l E q p m u hp (((mx m u) + (ab (p - hp))) + (nI 1)) (nI 0) _) (List.Perm.refl _) gX2_bringTo_X2_put rfl rfl rfl hd_X2_put ⟨by decide, by decide⟩ rfl (Nat.le_of_ble_eq_true rfl) dX2_bringTo_48 ⟨by decide, by decide⟩ (fun v_ w_ hvw => ?_)
  rw [hvw.1, hvw.2]
  clear hvw
  refine q_at (pc' := 51) (st' := []) (ws' := kC q hp (((mx m u) + (ab (p - hp))) + (nI 1)) (nI 0) ++ tl) (k' := 0) (n' := 0) rfl rfl rfl rfl rfl ?_
  refine q_vret F hr_ dX2_bringTo_51 (hp_ _ _ ⟨rfl, ?_⟩)
  rfl

set_option maxHeartbeats 4000000 in
set_option maxRecDepth 100000 in
theorem c_X2_bringTo_k1 (l : Launch) (E : gEnv) (q h : Nat) (p m u hp hl hn : Int32) (tl : va_W) (hh : (h, (.inr (4, [.int hp, .int hl, .int hn]) : va_E)) ∈ tl) : Cn l E yX2_bringTo wsX2_bringTo (rmL 2 0 0) [.ref q, .ref h] (kC q p m u ++ tl) 0 0 (fun v w => v = none ∧ w = kC q hp (brg 1 hp p m u) (kpu 1 (brg 1 hp p m u)) ++ tl) := by
  refine Cn.of (own := RX2) (cc := cX2_bringTo) (maxL := 5) (ret := none) (lv := [(0, .ref q), (1, .ref h)]) (by decide) rfl rfl (Nat.le_of_ble_eq_true rfl) rfl ?_
  intro p_ e_ s_ m_ args_ below_ meth_ c_ A_ P_ hp_ F hr_ hnm_
  have hf13_2 : Cond.fieldLink RX2 13 "KeyOnStreet$Key" (TX2 1).2.1 (TX2 1).2.2.1 ∈ wsX2_bringTo := by decide +kernel
  have hi2 : ∀ w ∈ u_ws RX2 TX2 3, w ∈ wsX2_bringTo := by decide +kernel
  have hf16_2 : Cond.fieldLink RX2 16 "KeyOnStreet$Key" (TX2 2).2.1 (TX2 2).2.2.1 ∈ wsX2_bringTo := by decide +kernel
  have hm23_0 : Cond.methodLink RX2 23 Lib.Math.max.name ∈ wsX2_bringTo := by decide +kernel
  have hm23_1 : Cond.static Lib.Math.max.name ∈ wsX2_bringTo := by decide +kernel
  have hm23_2 : Cond.initialized "java/lang/Math" ∈ wsX2_bringTo := by decide +kernel
  have hm23_3 : Cond.code Lib.Math.max.name Lib.Math.max.code 2 (some .int) ∈ wsX2_bringTo := by decide +kernel
  have hf7_2 : Cond.fieldLink RX2 7 "KeyOnStreet$Key" (TX2 0).2.1 (TX2 0).2.2.1 ∈ wsX2_bringTo := by decide +kernel
  have hf29_4 : Cond.fieldLink RX2 29 "KeyOnStreet$House" (TX4 0).2.1 (TX4 0).2.2.1 ∈ wsX2_bringTo := by decide +kernel
  have hi4 : ∀ w ∈ u_ws RX4 TX4 3, w ∈ wsX2_bringTo := by decide +kernel
  have hm32_0 : Cond.methodLink RX2 32 Lib.Math.abs.name ∈ wsX2_bringTo := by decide +kernel
  have hm32_1 : Cond.static Lib.Math.abs.name ∈ wsX2_bringTo := by decide +kernel
  have hm32_2 : Cond.initialized "java/lang/Math" ∈ wsX2_bringTo := by decide +kernel
  have hm32_3 : Cond.code Lib.Math.abs.name Lib.Math.abs.code 1 (some .int) ∈ wsX2_bringTo := by decide +kernel
  have hd_X0_openingTakes_U : "KeyOnStreet$House" ≠ "java/lang/invoke/MethodHandle" ∧ "KeyOnStreet$House" ≠ "java/lang/invoke/VarHandle" ∧ (parseMethodDescriptor "()I").map (fun d => d.parameters.length) = some 0 := by decide +kernel
  have hd_X0_keepsKeyUntil_U : "KeyOnStreet$House" ≠ "java/lang/invoke/MethodHandle" ∧ "KeyOnStreet$House" ≠ "java/lang/invoke/VarHandle" ∧ (parseMethodDescriptor "(I)I").map (fun d => d.parameters.length) = some 1 := by decide +kernel
  have hd_X2_put : yX2_put.cls = RX2 ∧ yX2_put.cls ≠ "java/lang/invoke/MethodHandle" ∧ yX2_put.cls ≠ "java/lang/invoke/VarHandle" ∧ (parseMethodDescriptor yX2_put.desc).map (fun d => d.parameters.length) = some 3 := by decide +kernel
  refine q_aload_n F 0 dX2_bringTo_0 rfl ?_
  refine q_get F (ci := 2) (j := 1) (List.mem_append_left _ (List.mem_of_getElem? (i := 0) rfl)) rfl hi2 (by decide) hf13_2 rfl rfl dX2_bringTo_1 ?_
  refine q_aload_n F 0 dX2_bringTo_4 rfl ?_
  refine q_get F (ci := 2) (j := 2) (List.mem_append_left _ (List.mem_of_getElem? (i := 0) rfl)) rfl hi2 (by decide) hf16_2 rfl rfl dX2_bringTo_5 ?_
  refine q_mmax F hm23_0 hm23_1 hm23_2 hm23_3 (by decide) (Nat.le_of_ble_eq_true rfl) (by decide) (by decide) dX2_bringTo_8 ?_
  refine q_toi (mx m u) rfl ?_
  refine q_istore_n F (lv' := [(2, .int (mx m u)), (0, .ref q), (1, .ref h)]) dX2_bringTo_11 (by decide) rfl ?_
  refine q_aload_n F 1 dX2_bringTo_12 rfl ?_
  refine q_get F (ci := 2) (j := 0) (List.mem_append_left _ (List.mem_of_getElem? (i := 0) rfl)) rfl hi2 (by decide) hf7_2 rfl rfl dX2_bringTo_13 ?_
  refine q_aload_n F 2 dX2_bringTo_16 rfl ?_
  refine q_get F (ci := 4) (j := 0) (List.mem_append_right _ hh) rfl hi4 (by decide) hf29_4 rfl rfl dX2_bringTo_17 ?_
  refine q_isub F dX2_bringTo_20 ?_
  refine q_mabs F hm32_0 hm32_1 hm32_2 hm32_3 (by decide) (Nat.le_of_ble_eq_true rfl) (by decide) (by decide) dX2_bringTo_21 ?_
  refine q_toi (ab (p - hp)) rfl ?_
  refine q_istore_n F (lv' := [(3, .int (ab (p - hp))), (2, .int (mx m u)), (0, .ref q), (1, .ref h)]) dX2_bringTo_24 (by decide) rfl ?_
  refine q_iload_n F 1 dX2_bringTo_25 rfl ?_
  refine q_iload_n F 0 dX2_bringTo_26 rfl ?_
  refine q_iadd F dX2_bringTo_27 ?_
  refine q_aload_n F 3 dX2_bringTo_28 rfl ?_
  refine q_callU F (ci := 4) (As := []) (rest := [.int ((mx m u) + (ab (p - hp)))]) (List.mem_append_right _ hh) rfl (c_X0_openingTakes l E _ h) (List.Perm.refl _) gX2_bringTo_X0_openingTakes_u36X4 rfl rfl rfl rfl hd_X0_openingTakes_U ⟨by decide, by decide⟩ rfl (Nat.le_of_ble_eq_true rfl) dX2_bringTo_29 ⟨by decide, by decide⟩ (fun v_ w_ hvw => ?_)
  rw [hvw.1, hvw.2]
  clear hvw
  refine q_at (pc' := 32) (st' := [.int (nI 1), .int ((mx m u) + (ab (p - hp)))]) (ws' := kC q p m u ++ tl) (k' := 0) (n' := 0) rfl rfl rfl rfl rfl ?_
  refine q_iadd F dX2_bringTo_32 ?_
  refine q_istore F (lv' := [(4, .int (((mx m u) + (ab (p - hp))) + (nI 1))), (3, .int (ab (p - hp))), (2, .int (mx m u)), (0, .ref q), (1, .ref h)]) dX2_bringTo_33 (by decide) rfl ?_
  refine q_aload_n F 3 dX2_bringTo_35 rfl ?_
  refine q_aload_n F 4 dX2_bringTo_36 rfl ?_
  refine q_get F (ci := 4) (j := 0) (List.mem_append_right _ hh) rfl hi4 (by decide) hf29_4 rfl rfl dX2_bringTo_37 ?_
  refine q_iload F 0 dX2_bringTo_40 rfl ?_
  refine q_aload_n F 4 dX2_bringTo_42 rfl ?_
  refine q_iload F 0 dX2_bringTo_43 rfl ?_
  refine q_callU F (ci := 4) (As := [.int (((mx m u) + (ab (p - hp))) + (nI 1))]) (rest := [.int (((mx m u) + (ab (p - hp))) + (nI 1)), .int hp, .ref q]) (List.mem_append_right _ hh) rfl (c_X0_keepsKeyUntil l E _ h (((mx m u) + (ab (p - hp))) + (nI 1))) (List.Perm.refl _) gX2_bringTo_X0_keepsKeyUntil_u40X4 rfl rfl rfl rfl hd_X0_keepsKeyUntil_U ⟨by decide, by decide⟩ rfl (Nat.le_of_ble_eq_true rfl) dX2_bringTo_45 ⟨by decide, by decide⟩ (fun v_ w_ hvw => ?_)
  rw [hvw.1, hvw.2]
  clear hvw
  refine q_at (pc' := 48) (st' := [.int (nI 0), .int (((mx m u) + (ab (p - hp))) + (nI 1)), .int hp, .ref q]) (ws' := kC q p m u ++ tl) (k' := 0) (n' := 0) rfl rfl rfl rfl rfl ?_
  refine q_callV F (ci := 2) (As := [.int hp, .int (((mx m u) + (ab (p - hp))) + (nI 1)), .int (nI 0)]) (rest := []) (List.mem_append_left _ (List.mem_of_getElem? (i := 0) rfl)) rfl (c_X2_put l E q p m u hp (((mx m u) + (ab (p - hp))) + (nI 1)) (nI 0) _) (List.Perm.refl _) gX2_bringTo_X2_put rfl rfl rfl hd_X2_put ⟨by decide, by decide⟩ rfl (Nat.le_of_ble_eq_true rfl) dX2_bringTo_48 ⟨by decide, by decide⟩ (fun v_ w_ hvw => ?_)
  rw [hvw.1, hvw.2]
  clear hvw
  refine q_at (pc' := 51) (st' := []) (ws' := kC q hp (((mx m u) + (ab (p - hp))) + (nI 1)) (nI 0) ++ tl) (k' := 0) (n' := 0) rfl rfl rfl rfl rfl ?_
  refine q_vret F hr_ dX2_bringTo_51 (hp_ _ _ ⟨rfl, ?_⟩)
  rfl

set_option maxHeartbeats 4000000 in
set_option maxRecDepth 100000 in
theorem c_X2_bringTo_k2 (l : Launch) (E : gEnv) (q h : Nat) (p m u hp hl hn : Int32) (tl : va_W) (hh : (h, (.inr (1, [.int hp, .int hl, .int hn]) : va_E)) ∈ tl) : Cn l E yX2_bringTo wsX2_bringTo (rmL 2 0 0) [.ref q, .ref h] (kC q p m u ++ tl) 0 0 (fun v w => v = none ∧ w = kC q hp (brg 2 hp p m u) (kpu 2 (brg 2 hp p m u)) ++ tl) := by
  refine Cn.of (own := RX2) (cc := cX2_bringTo) (maxL := 5) (ret := none) (lv := [(0, .ref q), (1, .ref h)]) (by decide) rfl rfl (Nat.le_of_ble_eq_true rfl) rfl ?_
  intro p_ e_ s_ m_ args_ below_ meth_ c_ A_ P_ hp_ F hr_ hnm_
  have hf13_2 : Cond.fieldLink RX2 13 "KeyOnStreet$Key" (TX2 1).2.1 (TX2 1).2.2.1 ∈ wsX2_bringTo := by decide +kernel
  have hi2 : ∀ w ∈ u_ws RX2 TX2 3, w ∈ wsX2_bringTo := by decide +kernel
  have hf16_2 : Cond.fieldLink RX2 16 "KeyOnStreet$Key" (TX2 2).2.1 (TX2 2).2.2.1 ∈ wsX2_bringTo := by decide +kernel
  have hm23_0 : Cond.methodLink RX2 23 Lib.Math.max.name ∈ wsX2_bringTo := by decide +kernel
  have hm23_1 : Cond.static Lib.Math.max.name ∈ wsX2_bringTo := by decide +kernel
  have hm23_2 : Cond.initialized "java/lang/Math" ∈ wsX2_bringTo := by decide +kernel
  have hm23_3 : Cond.code Lib.Math.max.name Lib.Math.max.code 2 (some .int) ∈ wsX2_bringTo := by decide +kernel
  have hf7_2 : Cond.fieldLink RX2 7 "KeyOnStreet$Key" (TX2 0).2.1 (TX2 0).2.2.1 ∈ wsX2_bringTo := by decide +kernel
  have hf29_1 : Cond.fieldLink RX2 29 "KeyOnStreet$House" (TX1 0).2.1 (TX1 0).2.2.1 ∈ wsX2_bringTo := by decide +kernel
  have hi1 : ∀ w ∈ u_ws RX1 TX1 3, w ∈ wsX2_bringTo := by decide +kernel
  have hm32_0 : Cond.methodLink RX2 32 Lib.Math.abs.name ∈ wsX2_bringTo := by decide +kernel
  have hm32_1 : Cond.static Lib.Math.abs.name ∈ wsX2_bringTo := by decide +kernel
  have hm32_2 : Cond.initialized "java/lang/Math" ∈ wsX2_bringTo := by decide +kernel
  have hm32_3 : Cond.code Lib.Math.abs.name Lib.Math.abs.code 1 (some .int) ∈ wsX2_bringTo := by decide +kernel
  have hd_X0_openingTakes_U : "KeyOnStreet$House" ≠ "java/lang/invoke/MethodHandle" ∧ "KeyOnStreet$House" ≠ "java/lang/invoke/VarHandle" ∧ (parseMethodDescriptor "()I").map (fun d => d.parameters.length) = some 0 := by decide +kernel
  have hd_X0_keepsKeyUntil_U : "KeyOnStreet$House" ≠ "java/lang/invoke/MethodHandle" ∧ "KeyOnStreet$House" ≠ "java/lang/invoke/VarHandle" ∧ (parseMethodDescriptor "(I)I").map (fun d => d.parameters.length) = some 1 := by decide +kernel
  have hd_X2_put : yX2_put.cls = RX2 ∧ yX2_put.cls ≠ "java/lang/invoke/MethodHandle" ∧ yX2_put.cls ≠ "java/lang/invoke/VarHandle" ∧ (parseMethodDescriptor yX2_put.desc).map (fun d => d.parameters.length) = some 3 := by decide +kernel
  refine q_aload_n F 0 dX2_bringTo_0 rfl ?_
  refine q_get F (ci := 2) (j := 1) (List.mem_append_left _ (List.mem_of_getElem? (i := 0) rfl)) rfl hi2 (by decide) hf13_2 rfl rfl dX2_bringTo_1 ?_
  refine q_aload_n F 0 dX2_bringTo_4 rfl ?_
  refine q_get F (ci := 2) (j := 2) (List.mem_append_left _ (List.mem_of_getElem? (i := 0) rfl)) rfl hi2 (by decide) hf16_2 rfl rfl dX2_bringTo_5 ?_
  refine q_mmax F hm23_0 hm23_1 hm23_2 hm23_3 (by decide) (Nat.le_of_ble_eq_true rfl) (by decide) (by decide) dX2_bringTo_8 ?_
  refine q_toi (mx m u) rfl ?_
  refine q_istore_n F (lv' := [(2, .int (mx m u)), (0, .ref q), (1, .ref h)]) dX2_bringTo_11 (by decide) rfl ?_
  refine q_aload_n F 1 dX2_bringTo_12 rfl ?_
  refine q_get F (ci := 2) (j := 0) (List.mem_append_left _ (List.mem_of_getElem? (i := 0) rfl)) rfl hi2 (by decide) hf7_2 rfl rfl dX2_bringTo_13 ?_
  refine q_aload_n F 2 dX2_bringTo_16 rfl ?_
  refine q_get F (ci := 1) (j := 0) (List.mem_append_right _ hh) rfl hi1 (by decide) hf29_1 rfl rfl dX2_bringTo_17 ?_
  refine q_isub F dX2_bringTo_20 ?_
  refine q_mabs F hm32_0 hm32_1 hm32_2 hm32_3 (by decide) (Nat.le_of_ble_eq_true rfl) (by decide) (by decide) dX2_bringTo_21 ?_
  refine q_toi (ab (p - hp)) rfl ?_
  refine q_istore_n F (lv' := [(3, .int (ab (p - hp))), (2, .int (mx m u)), (0, .ref q), (1, .ref h)]) dX2_bringTo_24 (by decide) rfl ?_
  refine q_iload_n F 1 dX2_bringTo_25 rfl ?_
  refine q_iload_n F 0 dX2_bringTo_26 rfl ?_
  refine q_iadd F dX2_bringTo_27 ?_
  refine q_aload_n F 3 dX2_bringTo_28 rfl ?_
  refine q_callU F (ci := 1) (As := []) (rest := [.int ((mx m u) + (ab (p - hp)))]) (List.mem_append_right _ hh) rfl (c_X0_openingTakes l E _ h) (List.Perm.refl _) gX2_bringTo_X0_openingTakes_u36X1 rfl rfl rfl rfl hd_X0_openingTakes_U ⟨by decide, by decide⟩ rfl (Nat.le_of_ble_eq_true rfl) dX2_bringTo_29 ⟨by decide, by decide⟩ (fun v_ w_ hvw => ?_)
  rw [hvw.1, hvw.2]
  clear hvw
  refine q_at (pc' := 32) (st' := [.int (nI 1), .int ((mx m u) + (ab (p - hp)))]) (ws' := kC q p m u ++ tl) (k' := 0) (n' := 0) rfl rfl rfl rfl rfl ?_
  refine q_iadd F dX2_bringTo_32 ?_
  refine q_istore F (lv' := [(4, .int (((mx m u) + (ab (p - hp))) + (nI 1))), (3, .int (ab (p - hp))), (2, .int (mx m u)), (0, .ref q), (1, .ref h)]) dX2_bringTo_33 (by decide) rfl ?_
  refine q_aload_n F 3 dX2_bringTo_35 rfl ?_
  refine q_aload_n F 4 dX2_bringTo_36 rfl ?_
  refine q_get F (ci := 1) (j := 0) (List.mem_append_right _ hh) rfl hi1 (by decide) hf29_1 rfl rfl dX2_bringTo_37 ?_
  refine q_iload F 0 dX2_bringTo_40 rfl ?_
  refine q_aload_n F 4 dX2_bringTo_42 rfl ?_
  refine q_iload F 0 dX2_bringTo_43 rfl ?_
  refine q_callU F (ci := 1) (As := [.int (((mx m u) + (ab (p - hp))) + (nI 1))]) (rest := [.int (((mx m u) + (ab (p - hp))) + (nI 1)), .int hp, .ref q]) (List.mem_append_right _ hh) rfl (c_X0_keepsKeyUntil l E _ h (((mx m u) + (ab (p - hp))) + (nI 1))) (List.Perm.refl _) gX2_bringTo_X0_keepsKeyUntil_u40X1 rfl rfl rfl rfl hd_X0_keepsKeyUntil_U ⟨by decide, by decide⟩ rfl (Nat.le_of_ble_eq_true rfl) dX2_bringTo_45 ⟨by decide, by decide⟩ (fun v_ w_ hvw => ?_)
  rw [hvw.1, hvw.2]
  clear hvw
  refine q_at (pc' := 48) (st' := [.int (nI 0), .int (((mx m u) + (ab (p - hp))) + (nI 1)), .int hp, .ref q]) (ws' := kC q p m u ++ tl) (k' := 0) (n' := 0) rfl rfl rfl rfl rfl ?_
  refine q_callV F (ci := 2) (As := [.int hp, .int (((mx m u) + (ab (p - hp))) + (nI 1)), .int (nI 0)]) (rest := []) (List.mem_append_left _ (List.mem_of_getElem? (i := 0) rfl)) rfl (c_X2_put l E q p m u hp (((mx m u) + (ab (p - hp))) + (nI 1)) (nI 0) _) (List.Perm.refl _) gX2_bringTo_X2_put rfl rfl rfl hd_X2_put ⟨by decide, by decide⟩ rfl (Nat.le_of_ble_eq_true rfl) dX2_bringTo_48 ⟨by decide, by decide⟩ (fun v_ w_ hvw => ?_)
  rw [hvw.1, hvw.2]
  clear hvw
  refine q_at (pc' := 51) (st' := []) (ws' := kC q hp (((mx m u) + (ab (p - hp))) + (nI 1)) (nI 0) ++ tl) (k' := 0) (n' := 0) rfl rfl rfl rfl rfl ?_
  refine q_vret F hr_ dX2_bringTo_51 (hp_ _ _ ⟨rfl, ?_⟩)
  rfl

set_option maxHeartbeats 4000000 in
set_option maxRecDepth 100000 in
theorem c_X2_bringTo_k3 (l : Launch) (E : gEnv) (q h : Nat) (p m u hp hl hn : Int32) (tl : va_W) (hh : (h, (.inr (9, [.int hp, .int hl, .int hn]) : va_E)) ∈ tl) : Cn l E yX2_bringTo wsX2_bringTo (rmL 2 0 0) [.ref q, .ref h] (kC q p m u ++ tl) 0 0 (fun v w => v = none ∧ w = kC q hp (brg 3 hp p m u) (kpu 3 (brg 3 hp p m u)) ++ tl) := by
  refine Cn.of (own := RX2) (cc := cX2_bringTo) (maxL := 5) (ret := none) (lv := [(0, .ref q), (1, .ref h)]) (by decide) rfl rfl (Nat.le_of_ble_eq_true rfl) rfl ?_
  intro p_ e_ s_ m_ args_ below_ meth_ c_ A_ P_ hp_ F hr_ hnm_
  have hf13_2 : Cond.fieldLink RX2 13 "KeyOnStreet$Key" (TX2 1).2.1 (TX2 1).2.2.1 ∈ wsX2_bringTo := by decide +kernel
  have hi2 : ∀ w ∈ u_ws RX2 TX2 3, w ∈ wsX2_bringTo := by decide +kernel
  have hf16_2 : Cond.fieldLink RX2 16 "KeyOnStreet$Key" (TX2 2).2.1 (TX2 2).2.2.1 ∈ wsX2_bringTo := by decide +kernel
  have hm23_0 : Cond.methodLink RX2 23 Lib.Math.max.name ∈ wsX2_bringTo := by decide +kernel
  have hm23_1 : Cond.static Lib.Math.max.name ∈ wsX2_bringTo := by decide +kernel
  have hm23_2 : Cond.initialized "java/lang/Math" ∈ wsX2_bringTo := by decide +kernel
  have hm23_3 : Cond.code Lib.Math.max.name Lib.Math.max.code 2 (some .int) ∈ wsX2_bringTo := by decide +kernel
  have hf7_2 : Cond.fieldLink RX2 7 "KeyOnStreet$Key" (TX2 0).2.1 (TX2 0).2.2.1 ∈ wsX2_bringTo := by decide +kernel
  have hf29_9 : Cond.fieldLink RX2 29 "KeyOnStreet$House" (TX9 0).2.1 (TX9 0).2.2.1 ∈ wsX2_bringTo := by decide +kernel
  have hi9 : ∀ w ∈ u_ws RX9 TX9 3, w ∈ wsX2_bringTo := by decide +kernel
  have hm32_0 : Cond.methodLink RX2 32 Lib.Math.abs.name ∈ wsX2_bringTo := by decide +kernel
  have hm32_1 : Cond.static Lib.Math.abs.name ∈ wsX2_bringTo := by decide +kernel
  have hm32_2 : Cond.initialized "java/lang/Math" ∈ wsX2_bringTo := by decide +kernel
  have hm32_3 : Cond.code Lib.Math.abs.name Lib.Math.abs.code 1 (some .int) ∈ wsX2_bringTo := by decide +kernel
  have hd_X9_openingTakes_O : "KeyOnStreet$House" ≠ "java/lang/invoke/MethodHandle" ∧ "KeyOnStreet$House" ≠ "java/lang/invoke/VarHandle" ∧ (parseMethodDescriptor "()I").map (fun d => d.parameters.length) = some 0 := by decide +kernel
  have hc_openingTakes : Cond.code ⟨"KeyOnStreet$House", "openingTakes", "()I"⟩ cX0_openingTakes 1 (some .int) ∈ wsX2_bringTo := by decide +kernel
  have hd_X0_keepsKeyUntil_U : "KeyOnStreet$House" ≠ "java/lang/invoke/MethodHandle" ∧ "KeyOnStreet$House" ≠ "java/lang/invoke/VarHandle" ∧ (parseMethodDescriptor "(I)I").map (fun d => d.parameters.length) = some 1 := by decide +kernel
  have hd_X2_put : yX2_put.cls = RX2 ∧ yX2_put.cls ≠ "java/lang/invoke/MethodHandle" ∧ yX2_put.cls ≠ "java/lang/invoke/VarHandle" ∧ (parseMethodDescriptor yX2_put.desc).map (fun d => d.parameters.length) = some 3 := by decide +kernel
  refine q_aload_n F 0 dX2_bringTo_0 rfl ?_
  refine q_get F (ci := 2) (j := 1) (List.mem_append_left _ (List.mem_of_getElem? (i := 0) rfl)) rfl hi2 (by decide) hf13_2 rfl rfl dX2_bringTo_1 ?_
  refine q_aload_n F 0 dX2_bringTo_4 rfl ?_
  refine q_get F (ci := 2) (j := 2) (List.mem_append_left _ (List.mem_of_getElem? (i := 0) rfl)) rfl hi2 (by decide) hf16_2 rfl rfl dX2_bringTo_5 ?_
  refine q_mmax F hm23_0 hm23_1 hm23_2 hm23_3 (by decide) (Nat.le_of_ble_eq_true rfl) (by decide) (by decide) dX2_bringTo_8 ?_
  refine q_toi (mx m u) rfl ?_
  refine q_istore_n F (lv' := [(2, .int (mx m u)), (0, .ref q), (1, .ref h)]) dX2_bringTo_11 (by decide) rfl ?_
  refine q_aload_n F 1 dX2_bringTo_12 rfl ?_
  refine q_get F (ci := 2) (j := 0) (List.mem_append_left _ (List.mem_of_getElem? (i := 0) rfl)) rfl hi2 (by decide) hf7_2 rfl rfl dX2_bringTo_13 ?_
  refine q_aload_n F 2 dX2_bringTo_16 rfl ?_
  refine q_get F (ci := 9) (j := 0) (List.mem_append_right _ hh) rfl hi9 (by decide) hf29_9 rfl rfl dX2_bringTo_17 ?_
  refine q_isub F dX2_bringTo_20 ?_
  refine q_mabs F hm32_0 hm32_1 hm32_2 hm32_3 (by decide) (Nat.le_of_ble_eq_true rfl) (by decide) (by decide) dX2_bringTo_21 ?_
  refine q_toi (ab (p - hp)) rfl ?_
  refine q_istore_n F (lv' := [(3, .int (ab (p - hp))), (2, .int (mx m u)), (0, .ref q), (1, .ref h)]) dX2_bringTo_24 (by decide) rfl ?_
  refine q_iload_n F 1 dX2_bringTo_25 rfl ?_
  refine q_iload_n F 0 dX2_bringTo_26 rfl ?_
  refine q_iadd F dX2_bringTo_27 ?_
  refine q_aload_n F 3 dX2_bringTo_28 rfl ?_
  refine q_callO F (ci := 9) (As := []) (rest := [.int ((mx m u) + (ab (p - hp)))]) (List.mem_append_right _ hh) rfl (c_X9_openingTakes l E _ h) (List.Perm.refl _) gX2_bringTo_X9_openingTakes_u36X9 rfl rfl rfl hc_openingTakes hd_X9_openingTakes_O ⟨by decide, by decide⟩ rfl (Nat.le_of_ble_eq_true rfl) dX2_bringTo_29 ⟨by decide, by decide⟩ (fun v_ w_ hvw => ?_)
  rw [hvw.1, hvw.2]
  clear hvw
  refine q_at (pc' := 32) (st' := [.int (nI 0), .int ((mx m u) + (ab (p - hp)))]) (ws' := kC q p m u ++ tl) (k' := 0) (n' := 0) rfl rfl rfl rfl rfl ?_
  refine q_iadd F dX2_bringTo_32 ?_
  refine q_istore F (lv' := [(4, .int (((mx m u) + (ab (p - hp))) + (nI 0))), (3, .int (ab (p - hp))), (2, .int (mx m u)), (0, .ref q), (1, .ref h)]) dX2_bringTo_33 (by decide) rfl ?_
  refine q_aload_n F 3 dX2_bringTo_35 rfl ?_
  refine q_aload_n F 4 dX2_bringTo_36 rfl ?_
  refine q_get F (ci := 9) (j := 0) (List.mem_append_right _ hh) rfl hi9 (by decide) hf29_9 rfl rfl dX2_bringTo_37 ?_
  refine q_iload F 0 dX2_bringTo_40 rfl ?_
  refine q_aload_n F 4 dX2_bringTo_42 rfl ?_
  refine q_iload F 0 dX2_bringTo_43 rfl ?_
  refine q_callU F (ci := 9) (As := [.int (((mx m u) + (ab (p - hp))) + (nI 0))]) (rest := [.int (((mx m u) + (ab (p - hp))) + (nI 0)), .int hp, .ref q]) (List.mem_append_right _ hh) rfl (c_X0_keepsKeyUntil l E _ h (((mx m u) + (ab (p - hp))) + (nI 0))) (List.Perm.refl _) gX2_bringTo_X0_keepsKeyUntil_u40X9 rfl rfl rfl rfl hd_X0_keepsKeyUntil_U ⟨by decide, by decide⟩ rfl (Nat.le_of_ble_eq_true rfl) dX2_bringTo_45 ⟨by decide, by decide⟩ (fun v_ w_ hvw => ?_)
  rw [hvw.1, hvw.2]
  clear hvw
  refine q_at (pc' := 48) (st' := [.int (nI 0), .int (((mx m u) + (ab (p - hp))) + (nI 0)), .int hp, .ref q]) (ws' := kC q p m u ++ tl) (k' := 0) (n' := 0) rfl rfl rfl rfl rfl ?_
  refine q_callV F (ci := 2) (As := [.int hp, .int (((mx m u) + (ab (p - hp))) + (nI 0)), .int (nI 0)]) (rest := []) (List.mem_append_left _ (List.mem_of_getElem? (i := 0) rfl)) rfl (c_X2_put l E q p m u hp (((mx m u) + (ab (p - hp))) + (nI 0)) (nI 0) _) (List.Perm.refl _) gX2_bringTo_X2_put rfl rfl rfl hd_X2_put ⟨by decide, by decide⟩ rfl (Nat.le_of_ble_eq_true rfl) dX2_bringTo_48 ⟨by decide, by decide⟩ (fun v_ w_ hvw => ?_)
  rw [hvw.1, hvw.2]
  clear hvw
  refine q_at (pc' := 51) (st' := []) (ws' := kC q hp (((mx m u) + (ab (p - hp))) + (nI 0)) (nI 0) ++ tl) (k' := 0) (n' := 0) rfl rfl rfl rfl rfl ?_
  refine q_vret F hr_ dX2_bringTo_51 (hp_ _ _ ⟨rfl, ?_⟩)
  rfl

set_option maxHeartbeats 4000000 in
set_option maxRecDepth 100000 in
theorem c_X2_bringTo_k4 (l : Launch) (E : gEnv) (q h : Nat) (p m u hp hl hn : Int32) (tl : va_W) (hh : (h, (.inr (3, [.int hp, .int hl, .int hn]) : va_E)) ∈ tl) : Cn l E yX2_bringTo wsX2_bringTo (rmL 2 0 0) [.ref q, .ref h] (kC q p m u ++ tl) 0 0 (fun v w => v = none ∧ w = kC q hp (brg 4 hp p m u) (kpu 4 (brg 4 hp p m u)) ++ tl) := by
  refine Cn.of (own := RX2) (cc := cX2_bringTo) (maxL := 5) (ret := none) (lv := [(0, .ref q), (1, .ref h)]) (by decide) rfl rfl (Nat.le_of_ble_eq_true rfl) rfl ?_
  intro p_ e_ s_ m_ args_ below_ meth_ c_ A_ P_ hp_ F hr_ hnm_
  have hf13_2 : Cond.fieldLink RX2 13 "KeyOnStreet$Key" (TX2 1).2.1 (TX2 1).2.2.1 ∈ wsX2_bringTo := by decide +kernel
  have hi2 : ∀ w ∈ u_ws RX2 TX2 3, w ∈ wsX2_bringTo := by decide +kernel
  have hf16_2 : Cond.fieldLink RX2 16 "KeyOnStreet$Key" (TX2 2).2.1 (TX2 2).2.2.1 ∈ wsX2_bringTo := by decide +kernel
  have hm23_0 : Cond.methodLink RX2 23 Lib.Math.max.name ∈ wsX2_bringTo := by decide +kernel
  have hm23_1 : Cond.static Lib.Math.max.name ∈ wsX2_bringTo := by decide +kernel
  have hm23_2 : Cond.initialized "java/lang/Math" ∈ wsX2_bringTo := by decide +kernel
  have hm23_3 : Cond.code Lib.Math.max.name Lib.Math.max.code 2 (some .int) ∈ wsX2_bringTo := by decide +kernel
  have hf7_2 : Cond.fieldLink RX2 7 "KeyOnStreet$Key" (TX2 0).2.1 (TX2 0).2.2.1 ∈ wsX2_bringTo := by decide +kernel
  have hf29_3 : Cond.fieldLink RX2 29 "KeyOnStreet$House" (TX3 0).2.1 (TX3 0).2.2.1 ∈ wsX2_bringTo := by decide +kernel
  have hi3 : ∀ w ∈ u_ws RX3 TX3 3, w ∈ wsX2_bringTo := by decide +kernel
  have hm32_0 : Cond.methodLink RX2 32 Lib.Math.abs.name ∈ wsX2_bringTo := by decide +kernel
  have hm32_1 : Cond.static Lib.Math.abs.name ∈ wsX2_bringTo := by decide +kernel
  have hm32_2 : Cond.initialized "java/lang/Math" ∈ wsX2_bringTo := by decide +kernel
  have hm32_3 : Cond.code Lib.Math.abs.name Lib.Math.abs.code 1 (some .int) ∈ wsX2_bringTo := by decide +kernel
  have hd_X9_openingTakes_O : "KeyOnStreet$House" ≠ "java/lang/invoke/MethodHandle" ∧ "KeyOnStreet$House" ≠ "java/lang/invoke/VarHandle" ∧ (parseMethodDescriptor "()I").map (fun d => d.parameters.length) = some 0 := by decide +kernel
  have hc_openingTakes : Cond.code ⟨"KeyOnStreet$House", "openingTakes", "()I"⟩ cX0_openingTakes 1 (some .int) ∈ wsX2_bringTo := by decide +kernel
  have hd_X3_keepsKeyUntil_O : "KeyOnStreet$House" ≠ "java/lang/invoke/MethodHandle" ∧ "KeyOnStreet$House" ≠ "java/lang/invoke/VarHandle" ∧ (parseMethodDescriptor "(I)I").map (fun d => d.parameters.length) = some 1 := by decide +kernel
  have hc_keepsKeyUntil : Cond.code ⟨"KeyOnStreet$House", "keepsKeyUntil", "(I)I"⟩ cX0_keepsKeyUntil 2 (some .int) ∈ wsX2_bringTo := by decide +kernel
  have hd_X2_put : yX2_put.cls = RX2 ∧ yX2_put.cls ≠ "java/lang/invoke/MethodHandle" ∧ yX2_put.cls ≠ "java/lang/invoke/VarHandle" ∧ (parseMethodDescriptor yX2_put.desc).map (fun d => d.parameters.length) = some 3 := by decide +kernel
  refine q_aload_n F 0 dX2_bringTo_0 rfl ?_
  refine q_get F (ci := 2) (j := 1) (List.mem_append_left _ (List.mem_of_getElem? (i := 0) rfl)) rfl hi2 (by decide) hf13_2 rfl rfl dX2_bringTo_1 ?_
  refine q_aload_n F 0 dX2_bringTo_4 rfl ?_
  refine q_get F (ci := 2) (j := 2) (List.mem_append_left _ (List.mem_of_getElem? (i := 0) rfl)) rfl hi2 (by decide) hf16_2 rfl rfl dX2_bringTo_5 ?_
  refine q_mmax F hm23_0 hm23_1 hm23_2 hm23_3 (by decide) (Nat.le_of_ble_eq_true rfl) (by decide) (by decide) dX2_bringTo_8 ?_
  refine q_toi (mx m u) rfl ?_
  refine q_istore_n F (lv' := [(2, .int (mx m u)), (0, .ref q), (1, .ref h)]) dX2_bringTo_11 (by decide) rfl ?_
  refine q_aload_n F 1 dX2_bringTo_12 rfl ?_
  refine q_get F (ci := 2) (j := 0) (List.mem_append_left _ (List.mem_of_getElem? (i := 0) rfl)) rfl hi2 (by decide) hf7_2 rfl rfl dX2_bringTo_13 ?_
  refine q_aload_n F 2 dX2_bringTo_16 rfl ?_
  refine q_get F (ci := 3) (j := 0) (List.mem_append_right _ hh) rfl hi3 (by decide) hf29_3 rfl rfl dX2_bringTo_17 ?_
  refine q_isub F dX2_bringTo_20 ?_
  refine q_mabs F hm32_0 hm32_1 hm32_2 hm32_3 (by decide) (Nat.le_of_ble_eq_true rfl) (by decide) (by decide) dX2_bringTo_21 ?_
  refine q_toi (ab (p - hp)) rfl ?_
  refine q_istore_n F (lv' := [(3, .int (ab (p - hp))), (2, .int (mx m u)), (0, .ref q), (1, .ref h)]) dX2_bringTo_24 (by decide) rfl ?_
  refine q_iload_n F 1 dX2_bringTo_25 rfl ?_
  refine q_iload_n F 0 dX2_bringTo_26 rfl ?_
  refine q_iadd F dX2_bringTo_27 ?_
  refine q_aload_n F 3 dX2_bringTo_28 rfl ?_
  refine q_callO F (ci := 3) (As := []) (rest := [.int ((mx m u) + (ab (p - hp)))]) (List.mem_append_right _ hh) rfl (c_X9_openingTakes l E _ h) (List.Perm.refl _) gX2_bringTo_X9_openingTakes_u36X3 rfl rfl rfl hc_openingTakes hd_X9_openingTakes_O ⟨by decide, by decide⟩ rfl (Nat.le_of_ble_eq_true rfl) dX2_bringTo_29 ⟨by decide, by decide⟩ (fun v_ w_ hvw => ?_)
  rw [hvw.1, hvw.2]
  clear hvw
  refine q_at (pc' := 32) (st' := [.int (nI 0), .int ((mx m u) + (ab (p - hp)))]) (ws' := kC q p m u ++ tl) (k' := 0) (n' := 0) rfl rfl rfl rfl rfl ?_
  refine q_iadd F dX2_bringTo_32 ?_
  refine q_istore F (lv' := [(4, .int (((mx m u) + (ab (p - hp))) + (nI 0))), (3, .int (ab (p - hp))), (2, .int (mx m u)), (0, .ref q), (1, .ref h)]) dX2_bringTo_33 (by decide) rfl ?_
  refine q_aload_n F 3 dX2_bringTo_35 rfl ?_
  refine q_aload_n F 4 dX2_bringTo_36 rfl ?_
  refine q_get F (ci := 3) (j := 0) (List.mem_append_right _ hh) rfl hi3 (by decide) hf29_3 rfl rfl dX2_bringTo_37 ?_
  refine q_iload F 0 dX2_bringTo_40 rfl ?_
  refine q_aload_n F 4 dX2_bringTo_42 rfl ?_
  refine q_iload F 0 dX2_bringTo_43 rfl ?_
  refine q_callO F (ci := 3) (As := [.int (((mx m u) + (ab (p - hp))) + (nI 0))]) (rest := [.int (((mx m u) + (ab (p - hp))) + (nI 0)), .int hp, .ref q]) (List.mem_append_right _ hh) rfl (c_X3_keepsKeyUntil l E _ h (((mx m u) + (ab (p - hp))) + (nI 0))) (List.Perm.refl _) gX2_bringTo_X3_keepsKeyUntil_u40X3 rfl rfl rfl hc_keepsKeyUntil hd_X3_keepsKeyUntil_O ⟨by decide, by decide⟩ rfl (Nat.le_of_ble_eq_true rfl) dX2_bringTo_45 ⟨by decide, by decide⟩ (fun v_ w_ hvw => ?_)
  rw [hvw.1, hvw.2]
  clear hvw
  refine q_at (pc' := 48) (st' := [.int ((((mx m u) + (ab (p - hp))) + (nI 0)) + nI 5), .int (((mx m u) + (ab (p - hp))) + (nI 0)), .int hp, .ref q]) (ws' := kC q p m u ++ tl) (k' := 0) (n' := 0) rfl rfl rfl rfl rfl ?_
  refine q_callV F (ci := 2) (As := [.int hp, .int (((mx m u) + (ab (p - hp))) + (nI 0)), .int ((((mx m u) + (ab (p - hp))) + (nI 0)) + nI 5)]) (rest := []) (List.mem_append_left _ (List.mem_of_getElem? (i := 0) rfl)) rfl (c_X2_put l E q p m u hp (((mx m u) + (ab (p - hp))) + (nI 0)) ((((mx m u) + (ab (p - hp))) + (nI 0)) + nI 5) _) (List.Perm.refl _) gX2_bringTo_X2_put rfl rfl rfl hd_X2_put ⟨by decide, by decide⟩ rfl (Nat.le_of_ble_eq_true rfl) dX2_bringTo_48 ⟨by decide, by decide⟩ (fun v_ w_ hvw => ?_)
  rw [hvw.1, hvw.2]
  clear hvw
  refine q_at (pc' := 51) (st' := []) (ws' := kC q hp (((mx m u) + (ab (p - hp))) + (nI 0)) ((((mx m u) + (ab (p - hp))) + (nI 0)) + nI 5) ++ tl) (k' := 0) (n' := 0) rfl rfl rfl rfl rfl ?_
  refine q_vret F hr_ dX2_bringTo_51 (hp_ _ _ ⟨rfl, ?_⟩)
  rfl

theorem c_X2_bringTo (l : Launch) (E : gEnv) (k q h : Nat) (p m u hp hl hn : Int32) (tl : va_W) (hk : k < 5) (hh : (h, hE k hp hl hn) ∈ tl) : Cn l E yX2_bringTo wsX2_bringTo (rmL 2 0 0) [.ref q, .ref h] (kC q p m u ++ tl) 0 0 (fun v w => v = none ∧ w = kC q hp (brg k hp p m u) (kpu k (brg k hp p m u)) ++ tl) := by
  rcases (show k = 0 ∨ k = 1 ∨ k = 2 ∨ k = 3 ∨ k = 4 by omega) with rfl | rfl | rfl | rfl | rfl
  · exact c_X2_bringTo_k0 l E q h p m u hp hl hn tl hh
  · exact c_X2_bringTo_k1 l E q h p m u hp hl hn tl hh
  · exact c_X2_bringTo_k2 l E q h p m u hp hl hn tl hh
  · exact c_X2_bringTo_k3 l E q h p m u hp hl hn tl hh
  · exact c_X2_bringTo_k4 l E q h p m u hp hl hn tl hh
