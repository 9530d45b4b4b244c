/-! new objects -/
def zB : Nat → Nat → Int32 := fun _ _ => nI 0
def zF : Nat → Int32 := fun _ => nI 0
def tT0 : gTown := (0, fun _ => 0, fun _ => 0, fun _ => nI 0, fun _ => nI 0, fun _ => nI 0)
theorem tT0_R : tR tT0 = fun _ => none := funext fun i => by simp [tR, tT0, tN]
theorem tT0_M : mwB tT0 6 = nI 0 := by decide
def ksI (kd : Nat → Nat) (i : Nat) : va_W := (List.range i).map fun j => (kd j, .inr (2, [.int (nI 0), .int (nI 0), .int (nI 0)]))
def kyR (kd : Nat → Nat) (i : Nat) : Nat → Option Nat := fun j => if j < i then some (kd j) else none
theorem kyR_0 (kd : Nat → Nat) : kyR kd 0 = fun _ => none := funext fun j => by simp [kyR]
theorem kyR_s (kd : Nat → Nat) (i q : Nat) : va_up (kyR kd i) i (some q) = kyR (va_up kd i q) (i + 1) := funext fun j => by
  by_cases e : j = i
  · subst e; simp [kyR, va_up]
  · by_cases e2 : j < i
    · simp [kyR, va_up, e, e2, show j < i + 1 by omega]
    · simp [kyR, va_up, e, e2, show ¬ j < i + 1 by omega]
theorem ksI_s {kd : Nat → Nat} {i q : Nat} {ws : va_W} : (oV q 2 [.int (nI 0), .int (nI 0), .int (nI 0)] ++ (ksI kd i ++ ws)).Perm (ksI (va_up kd i q) (i + 1) ++ ws) := by
  have e : ksI (va_up kd i q) (i + 1) = ksI kd i ++ oV q 2 [.int (nI 0), .int (nI 0), .int (nI 0)] := by
    unfold ksI oV
    rw [List.range_succ, List.map_append]
    congr 1
    · refine List.map_congr_left fun j hj => ?_
      have := List.mem_range.mp hj
      rw [va_up_ne _ _ (by omega)]
    · show [(va_up kd i q i, _)] = _
      rw [va_up_self]
  rw [e, List.append_assoc]
  exact List.perm_append_comm_assoc _ _ _
/-- the class's object -/
def oC (x q t a k u r : Nat) (g : Nat → Int32) : va_W := [(x, .inr (10, [.ref q, .ref t, .ref a, .ref k, .ref u, .ref r, .int (g 6), .int (g 7), .int (g 8), .int (g 9), .int (g 10)]))]
set_option maxHeartbeats 4000000 in
set_option maxRecDepth 100000 in
theorem c_X2_init (l : Launch) (E : gEnv) (q : Nat) (x y z : Int32) (tl : va_W) : Cn l E yX2_init wsX2_init (rmL 1 0 0) [.ref q] (oV q 2 ([.int x, .int y, .int z]) ++ tl) 0 0 (fun v w => v = none ∧ w = oV q 2 [.int x, .int y, .int z] ++ tl) := by
  refine Cn.of (own := RX2) (cc := cX2_init) (maxL := 1) (ret := none) (lv := [(0, .ref q)]) (by decide) rfl rfl (Nat.le_of_ble_eq_true rfl) rfl ?_
  intro p_ e_ s_ m_ args_ below_ meth_ c_ A_ P_ hp_ F hr_ hnm_
  have ho_0 : Cond.methodLink RX2 1 Lib.objectInit ∈ wsX2_init := by decide +kernel
  have ho_1 : Cond.instanceMethod Lib.objectInit ∈ wsX2_init := by decide +kernel
  have ho_2 : Cond.code Lib.objectInit ⟨#[0xb1]⟩ 1 none ∈ wsX2_init := by decide +kernel
  refine q_aload_n F 0 dX2_init_0 rfl ?_
  refine q_objInit F ho_0 ho_1 ho_2 (by decide) (Nat.le_of_ble_eq_true rfl) dX2_init_1 ?_
  refine q_vret F hr_ dX2_init_4 (hp_ _ _ ⟨rfl, ?_⟩)
  rfl

set_option maxHeartbeats 4000000 in
set_option maxRecDepth 100000 in
theorem c_X6_init (l : Launch) (E : gEnv) (q : Nat) (tl : va_W) : Cn l E yX6_init wsX6_init (rmL 1 1 30) [.ref q] (oV q 6 ([.null, .int (nI 0)]) ++ tl) 1 30 (fun v w => v = none ∧ ∃ a : Nat → Nat, a 0 = q ∧ w = pC E a 0 zF ++ tl) := by
  refine Cn.of (own := RX6) (cc := cX6_init) (maxL := 1) (ret := none) (lv := [(0, .ref q)]) (by decide) rfl rfl (Nat.le_of_ble_eq_true rfl) rfl ?_
  intro p_ e_ s_ m_ args_ below_ meth_ c_ A_ P_ hp_ F hr_ hnm_
  have ho_0 : Cond.methodLink RX6 3 Lib.objectInit ∈ wsX6_init := by decide +kernel
  have ho_1 : Cond.instanceMethod Lib.objectInit ∈ wsX6_init := by decide +kernel
  have ho_2 : Cond.code Lib.objectInit ⟨#[0xb1]⟩ 1 none ∈ wsX6_init := by decide +kernel
  have hac_int : Cond.arrayClass .int ∈ wsX6_init := by decide +kernel
  have hf9_6 : Cond.fieldLink RX6 9 "KeyOnStreet$Page" (TX6 0).2.1 (TX6 0).2.2.1 ∈ wsX6_init := by decide +kernel
  have hi6 : ∀ w ∈ u_ws RX6 TX6 2, w ∈ wsX6_init := by decide +kernel
  refine q_aload_n F 0 dX6_init_0 rfl ?_
  refine q_objInit F ho_0 ho_1 ho_2 (by decide) (Nat.le_of_ble_eq_true rfl) dX6_init_1 ?_
  refine q_aload_n F 0 dX6_init_4 rfl ?_
  refine q_bipush F dX6_init_5 (v := nI 30) (by decide) ?_
  refine q_newI F (N := 30) hac_int rfl (by decide) (Nat.le_of_ble_eq_true rfl) (Nat.le_of_ble_eq_true rfl) dX6_init_7 (fun q_1 => ?_)
  refine q_at (pc' := 9) (st' := [.ref q_1, .ref q]) (ws' := aI E q_1 30 (fun _ => 0) ++ (oV q 6 ([.null, .int (nI 0)]) ++ tl)) (k' := 1) (n' := 30) rfl rfl rfl rfl rfl ?_
  refine q_perm pf1 ?_
  refine q_putF F (j := 0) 0 rfl rfl hi6 tyX6 tyX6_ok nmX6 (by decide) hf9_6 rfl rfl hnm_ rfl rfl rfl (Nat.le_of_ble_eq_true rfl) dX6_init_9 (ws' := oV q 6 ([.ref q_1, .int (nI 0)]) ++ (aI E q_1 30 (fun _ => 0) ++ tl)) rfl ?_
  obtain ⟨a, rfl, rfl⟩ : ∃ a : Nat → Nat, a 0 = q ∧ a 1 = q_1 := ⟨fun i => match i with | 0 => q | 1 => q_1 | _ => 0, rfl, rfl⟩
  refine q_perm pf1 ?_
  refine q_perm pf1 ?_
  refine q_at (pc' := 12) (st' := []) (ws' := pC E a 0 zF ++ tl) (k' := 1) (n' := 30) rfl rfl rfl rfl rfl ?_
  exact q_vret F hr_ dX6_init_12 (hp_ _ _ ⟨rfl, a, rfl, rfl⟩)

set_option maxHeartbeats 4000000 in
set_option maxRecDepth 100000 in
theorem c_X8_init (l : Launch) (E : gEnv) (q : Nat) (tl : va_W) : Cn l E yX8_init wsX8_init (rmL 2 2 9) [.ref q] (oV q 8 ([.null, .null, .int (nI 0), .int (nI 0)]) ++ tl) 2 9 (fun v w => v = none ∧ ∃ a : Nat → Nat, a 0 = q ∧ w = tC E a tT0 ++ tl) := by
  refine Cn.of (own := RX8) (cc := cX8_init) (maxL := 1) (ret := none) (lv := [(0, .ref q)]) (by decide) rfl rfl (Nat.le_of_ble_eq_true rfl) rfl ?_
  intro p_ e_ s_ m_ args_ below_ meth_ c_ A_ P_ hp_ F hr_ hnm_
  have ho_0 : Cond.methodLink RX8 3 Lib.objectInit ∈ wsX8_init := by decide +kernel
  have ho_1 : Cond.instanceMethod Lib.objectInit ∈ wsX8_init := by decide +kernel
  have ho_2 : Cond.code Lib.objectInit ⟨#[0xb1]⟩ 1 none ∈ wsX8_init := by decide +kernel
  have hcl9 : Cond.classLink RX8 9 RX0 ∈ wsX8_init := by decide +kernel
  have hf11_8 : Cond.fieldLink RX8 11 "KeyOnStreet$Town" (TX8 0).2.1 (TX8 0).2.2.1 ∈ wsX8_init := by decide +kernel
  have hi8 : ∀ w ∈ u_ws RX8 TX8 4, w ∈ wsX8_init := by decide +kernel
  have hi0 : ∀ w ∈ u_ws RX0 TX0 3, w ∈ wsX8_init := by decide +kernel
  have hia0 : Cond.instantiable RX0 3 ∈ wsX8_init := by decide +kernel
  have hit0 : Cond.initialized RX0 ∈ wsX8_init := by decide +kernel
  have hd_X0_init : yX0_init.cls ≠ "java/lang/invoke/MethodHandle" ∧ yX0_init.cls ≠ "java/lang/invoke/VarHandle" ∧ (parseMethodDescriptor yX0_init.desc).map (fun d => d.parameters.length) = some 3 := by decide +kernel
  have hini_X0_init : Cond.initialized yX0_init.cls ∈ wsX8_init := by decide +kernel
  have hinm_X0_init : Cond.instanceMethod yX0_init ∈ wsX8_init := by decide +kernel
  have hlk_17 : Cond.methodLink RX8 17 yX0_init ∈ wsX8_init := by decide +kernel
  have hf20_8 : Cond.fieldLink RX8 20 "KeyOnStreet$Town" (TX8 1).2.1 (TX8 1).2.2.1 ∈ wsX8_init := by decide +kernel
  refine q_aload_n F 0 dX8_init_0 rfl ?_
  refine q_objInit F ho_0 ho_1 ho_2 (by decide) (Nat.le_of_ble_eq_true rfl) dX8_init_1 ?_
  refine q_aload_n F 0 dX8_init_4 rfl ?_
  refine q_bipush F dX8_init_5 (v := nI 6) (by decide) ?_
  refine q_newq2 F (N := 6) hcl9 rfl (by decide) (Nat.le_of_ble_eq_true rfl) (Nat.le_of_ble_eq_true rfl) dX8_init_7 (fun q_1 => ?_)
  refine q_at (pc' := 10) (st' := [.ref q_1, .ref q]) (ws' := aR E 2 q_1 6 (fun _ => none) ++ (oV q 8 ([.null, .null, .int (nI 0), .int (nI 0)]) ++ tl)) (k' := 1) (n' := 6) rfl rfl rfl rfl rfl ?_
  refine q_perm pf1 ?_
  refine q_putF F (j := 0) 0 rfl rfl hi8 tyX8 tyX8_ok nmX8 (by decide) hf11_8 rfl rfl hnm_ rfl rfl rfl (Nat.le_of_ble_eq_true rfl) dX8_init_10 (ws' := oV q 8 ([.ref q_1, .null, .int (nI 0), .int (nI 0)]) ++ (aR E 2 q_1 6 (fun _ => none) ++ tl)) rfl ?_
  refine q_aload_n F 0 dX8_init_13 rfl ?_
  refine q_new F (ci := 0) (fs := [.int (nI 0), .int (nI 0), .int (nI 0)]) rfl hi0 tyX0 tyX0_ok hcl9 hia0 hit0 (by intro j hj; rcases (show j = 0 ∨ j = 1 ∨ j = 2 by omega) with rfl | rfl | rfl <;> rfl) (Nat.le_of_ble_eq_true rfl) (Nat.le_of_ble_eq_true rfl) dX8_init_14 (fun q_2 => ?_)
  refine q_at (pc' := 17) (st' := [.ref q_2, .ref q]) (ws' := oV q_2 0 ([.int (nI 0), .int (nI 0), .int (nI 0)]) ++ (oV q 8 ([.ref q_1, .null, .int (nI 0), .int (nI 0)]) ++ (aR E 2 q_1 6 (fun _ => none) ++ tl))) (k' := 2) (n' := 9) rfl rfl rfl rfl rfl ?_
  refine q_dup F dX8_init_17 rfl ?_
  refine q_iconst F dX8_init_18 (v := nI 0) (by decide) ?_
  refine q_iconst F dX8_init_19 (v := nI 1) (by decide) ?_
  refine q_iconst F dX8_init_20 (v := nI 1) (by decide) ?_
  refine q_callI F (As := [.int (nI 0), .int (nI 1), .int (nI 1)]) (rest := [.ref q_2, .ref q]) (c_X0_init_0 l E q_2 (nI 0) (nI 0) (nI 0) (nI 0) (nI 1) (nI 1) (oV q 8 ([.ref q_1, .null, .int (nI 0), .int (nI 0)]) ++ (aR E 2 q_1 6 (fun _ => none) ++ tl))) (List.Perm.refl _) gX8_init_X0_init rfl rfl rfl hini_X0_init hlk_17 hinm_X0_init rfl hd_X0_init ⟨by decide, by decide⟩ rfl (Nat.le_of_ble_eq_true rfl) dX8_init_21 ⟨Nat.le_of_ble_eq_true rfl, Nat.le_of_ble_eq_true rfl⟩ (fun v_ w_ hvw => ?_)
  rw [hvw.1, hvw.2]
  clear hvw
  refine q_at (pc' := 24) (st' := [.ref q_2, .ref q]) (ws' := oV q_2 0 ([.int (nI 0), .int (nI 1), .int (nI 1)]) ++ (oV q 8 ([.ref q_1, .null, .int (nI 0), .int (nI 0)]) ++ (aR E 2 q_1 6 (fun _ => none) ++ tl))) (k' := 2) (n' := 9) rfl rfl rfl rfl rfl ?_
  refine q_perm pf1 ?_
  refine q_putF F (j := 1) 0 rfl rfl hi8 tyX8 tyX8_ok nmX8 (by decide) hf20_8 rfl rfl hnm_ rfl rfl rfl (Nat.le_of_ble_eq_true rfl) dX8_init_24 (ws' := oV q 8 ([.ref q_1, .ref q_2, .int (nI 0), .int (nI 0)]) ++ (oV q_2 0 ([.int (nI 0), .int (nI 1), .int (nI 1)]) ++ (aR E 2 q_1 6 (fun _ => none) ++ tl))) rfl ?_
  obtain ⟨a, rfl, rfl, rfl⟩ : ∃ a : Nat → Nat, a 0 = q ∧ a 1 = q_1 ∧ a 2 = q_2 := ⟨fun i => match i with | 0 => q | 1 => q_1 | 2 => q_2 | _ => 0, rfl, rfl, rfl⟩
  refine q_perm pf1 ?_
  refine q_perm pf2 ?_
  refine q_perm pf2 ?_
  refine q_at (pc' := 27) (st' := []) (ws' := tC E a tT0 ++ tl) (k' := 2) (n' := 9) rfl rfl (by unfold tC; rw [tT0_R, tT0_M]; rfl) rfl rfl ?_
  exact q_vret F hr_ dX8_init_27 (hp_ _ _ ⟨rfl, a, rfl, rfl⟩)

set_option maxHeartbeats 4000000 in
set_option maxRecDepth 100000 in
theorem c_X5_init (l : Launch) (E : gEnv) (q t : Nat) (tl : va_W) : Cn l E yX5_init wsX5_init (rmL 2 8 45) [.ref q, .ref t] (oV q 5 ([.null, .null, .null, .null, .null, .null, .null, .null, .null, .int (nI 0)]) ++ tl) 8 45 (fun v w => v = none ∧ ∃ a : Nat → Nat, a 0 = q ∧ w = nC E a t (nI 0) (bgB zB) ++ (kC (a 1) (nI 0) (nI 0) (nI 0) ++ tl)) := by
  refine Cn.of (own := RX5) (cc := cX5_init) (maxL := 3) (ret := none) (lv := [(0, .ref q), (1, .ref t)]) (by decide) rfl rfl (Nat.le_of_ble_eq_true rfl) rfl ?_
  intro p_ e_ s_ m_ args_ below_ meth_ c_ A_ P_ hp_ F hr_ hnm_
  have ho_0 : Cond.methodLink RX5 3 Lib.objectInit ∈ wsX5_init := by decide +kernel
  have ho_1 : Cond.instanceMethod Lib.objectInit ∈ wsX5_init := by decide +kernel
  have ho_2 : Cond.code Lib.objectInit ⟨#[0xb1]⟩ 1 none ∈ wsX5_init := by decide +kernel
  have hi2 : ∀ w ∈ u_ws RX2 TX2 3, w ∈ wsX5_init := by decide +kernel
  have hcl9 : Cond.classLink RX5 9 RX2 ∈ wsX5_init := by decide +kernel
  have hia2 : Cond.instantiable RX2 3 ∈ wsX5_init := by decide +kernel
  have hit2 : Cond.initialized RX2 ∈ wsX5_init := by decide +kernel
  have hd_X2_init : yX2_init.cls ≠ "java/lang/invoke/MethodHandle" ∧ yX2_init.cls ≠ "java/lang/invoke/VarHandle" ∧ (parseMethodDescriptor yX2_init.desc).map (fun d => d.parameters.length) = some 0 := by decide +kernel
  have hini_X2_init : Cond.initialized yX2_init.cls ∈ wsX5_init := by decide +kernel
  have hinm_X2_init : Cond.instanceMethod yX2_init ∈ wsX5_init := by decide +kernel
  have hnl_11 : (RX5, 11, yX2_init) ∈ gNl := by decide +kernel
  have hf12_5 : Cond.fieldLink RX5 12 "KeyOnStreet$Night" (TX5 1).2.1 (TX5 1).2.2.1 ∈ wsX5_init := by decide +kernel
  have hi5 : ∀ w ∈ u_ws RX5 TX5 10, w ∈ wsX5_init := by decide +kernel
  have hac_int : Cond.arrayClass .int ∈ wsX5_init := by decide +kernel
  have hf18_5 : Cond.fieldLink RX5 18 "KeyOnStreet$Night" (TX5 2).2.1 (TX5 2).2.2.1 ∈ wsX5_init := by decide +kernel
  have hf22_5 : Cond.fieldLink RX5 22 "KeyOnStreet$Night" (TX5 3).2.1 (TX5 3).2.2.1 ∈ wsX5_init := by decide +kernel
  have hf25_5 : Cond.fieldLink RX5 25 "KeyOnStreet$Night" (TX5 4).2.1 (TX5 4).2.2.1 ∈ wsX5_init := by decide +kernel
  have hf28_5 : Cond.fieldLink RX5 28 "KeyOnStreet$Night" (TX5 5).2.1 (TX5 5).2.2.1 ∈ wsX5_init := by decide +kernel
  have hf31_5 : Cond.fieldLink RX5 31 "KeyOnStreet$Night" (TX5 6).2.1 (TX5 6).2.2.1 ∈ wsX5_init := by decide +kernel
  have hf34_5 : Cond.fieldLink RX5 34 "KeyOnStreet$Night" (TX5 7).2.1 (TX5 7).2.2.1 ∈ wsX5_init := by decide +kernel
  have hac_boolean : Cond.arrayClass .boolean ∈ wsX5_init := by decide +kernel
  have hf37_5 : Cond.fieldLink RX5 37 "KeyOnStreet$Night" (TX5 8).2.1 (TX5 8).2.2.1 ∈ wsX5_init := by decide +kernel
  have hf41_5 : Cond.fieldLink RX5 41 "KeyOnStreet$Night" (TX5 0).2.1 (TX5 0).2.2.1 ∈ wsX5_init := by decide +kernel
  refine q_aload_n F 0 dX5_init_0 rfl ?_
  refine q_objInit F ho_0 ho_1 ho_2 (by decide) (Nat.le_of_ble_eq_true rfl) dX5_init_1 ?_
  refine q_aload_n F 0 dX5_init_4 rfl ?_
  refine q_new F (ci := 2) (fs := [.int (nI 0), .int (nI 0), .int (nI 0)]) rfl hi2 tyX2 tyX2_ok hcl9 hia2 hit2 (by intro j hj; rcases (show j = 0 ∨ j = 1 ∨ j = 2 by omega) with rfl | rfl | rfl <;> rfl) (Nat.le_of_ble_eq_true rfl) (Nat.le_of_ble_eq_true rfl) dX5_init_5 (fun q_1 => ?_)
  refine q_at (pc' := 8) (st' := [.ref q_1, .ref q]) (ws' := oV q_1 2 ([.int (nI 0), .int (nI 0), .int (nI 0)]) ++ (oV q 5 ([.null, .null, .null, .null, .null, .null, .null, .null, .null, .int (nI 0)]) ++ tl)) (k' := 1) (n' := 3) rfl rfl rfl rfl rfl ?_
  refine q_dup F dX5_init_8 rfl ?_
  refine q_callIN F (As := []) (rest := [.ref q_1, .ref q]) (c_X2_init l E q_1 (nI 0) (nI 0) (nI 0) (oV q 5 ([.null, .null, .null, .null, .null, .null, .null, .null, .null, .int (nI 0)]) ++ tl)) (List.Perm.refl _) gX5_init_X2_init_n11 rfl rfl rfl hini_X2_init hnl_11 hinm_X2_init rfl hd_X2_init ⟨by decide, by decide⟩ rfl (Nat.le_of_ble_eq_true rfl) dX5_init_9 ⟨Nat.le_of_ble_eq_true rfl, Nat.le_of_ble_eq_true rfl⟩ (fun v_ w_ hvw => ?_)
  rw [hvw.1, hvw.2]
  clear hvw
  refine q_at (pc' := 12) (st' := [.ref q_1, .ref q]) (ws' := oV q_1 2 ([.int (nI 0), .int (nI 0), .int (nI 0)]) ++ (oV q 5 ([.null, .null, .null, .null, .null, .null, .null, .null, .null, .int (nI 0)]) ++ tl)) (k' := 1) (n' := 3) rfl rfl rfl rfl rfl ?_
  refine q_perm pf1 ?_
  refine q_putF F (j := 1) 0 rfl rfl hi5 tyX5 tyX5_ok nmX5 (by decide) hf12_5 rfl rfl hnm_ rfl rfl rfl (Nat.le_of_ble_eq_true rfl) dX5_init_12 (ws' := oV q 5 ([.null, .ref q_1, .null, .null, .null, .null, .null, .null, .null, .int (nI 0)]) ++ (oV q_1 2 ([.int (nI 0), .int (nI 0), .int (nI 0)]) ++ tl)) rfl ?_
  refine q_aload_n F 0 dX5_init_15 rfl ?_
  refine q_bipush F dX5_init_16 (v := nI 6) (by decide) ?_
  refine q_newI F (N := 6) hac_int rfl (by decide) (Nat.le_of_ble_eq_true rfl) (Nat.le_of_ble_eq_true rfl) dX5_init_18 (fun q_2 => ?_)
  refine q_at (pc' := 20) (st' := [.ref q_2, .ref q]) (ws' := aI E q_2 6 (fun _ => 0) ++ (oV q 5 ([.null, .ref q_1, .null, .null, .null, .null, .null, .null, .null, .int (nI 0)]) ++ (oV q_1 2 ([.int (nI 0), .int (nI 0), .int (nI 0)]) ++ tl))) (k' := 2) (n' := 9) rfl rfl rfl rfl rfl ?_
  refine q_perm pf1 ?_
  refine q_putF F (j := 2) 0 rfl rfl hi5 tyX5 tyX5_ok nmX5 (by decide) hf18_5 rfl rfl hnm_ rfl rfl rfl (Nat.le_of_ble_eq_true rfl) dX5_init_20 (ws' := oV q 5 ([.null, .ref q_1, .ref q_2, .null, .null, .null, .null, .null, .null, .int (nI 0)]) ++ (aI E q_2 6 (fun _ => 0) ++ (oV q_1 2 ([.int (nI 0), .int (nI 0), .int (nI 0)]) ++ tl))) rfl ?_
  refine q_aload_n F 0 dX5_init_23 rfl ?_
  refine q_bipush F dX5_init_24 (v := nI 6) (by decide) ?_
  refine q_newI F (N := 6) hac_int rfl (by decide) (Nat.le_of_ble_eq_true rfl) (Nat.le_of_ble_eq_true rfl) dX5_init_26 (fun q_3 => ?_)
  refine q_at (pc' := 28) (st' := [.ref q_3, .ref q]) (ws' := aI E q_3 6 (fun _ => 0) ++ (oV q 5 ([.null, .ref q_1, .ref q_2, .null, .null, .null, .null, .null, .null, .int (nI 0)]) ++ (aI E q_2 6 (fun _ => 0) ++ (oV q_1 2 ([.int (nI 0), .int (nI 0), .int (nI 0)]) ++ tl)))) (k' := 3) (n' := 15) rfl rfl rfl rfl rfl ?_
  refine q_perm pf1 ?_
  refine q_putF F (j := 3) 0 rfl rfl hi5 tyX5 tyX5_ok nmX5 (by decide) hf22_5 rfl rfl hnm_ rfl rfl rfl (Nat.le_of_ble_eq_true rfl) dX5_init_28 (ws' := oV q 5 ([.null, .ref q_1, .ref q_2, .ref q_3, .null, .null, .null, .null, .null, .int (nI 0)]) ++ (aI E q_3 6 (fun _ => 0) ++ (aI E q_2 6 (fun _ => 0) ++ (oV q_1 2 ([.int (nI 0), .int (nI 0), .int (nI 0)]) ++ tl)))) rfl ?_
  refine q_aload_n F 0 dX5_init_31 rfl ?_
  refine q_bipush F dX5_init_32 (v := nI 6) (by decide) ?_
  refine q_newI F (N := 6) hac_int rfl (by decide) (Nat.le_of_ble_eq_true rfl) (Nat.le_of_ble_eq_true rfl) dX5_init_34 (fun q_4 => ?_)
  refine q_at (pc' := 36) (st' := [.ref q_4, .ref q]) (ws' := aI E q_4 6 (fun _ => 0) ++ (oV q 5 ([.null, .ref q_1, .ref q_2, .ref q_3, .null, .null, .null, .null, .null, .int (nI 0)]) ++ (aI E q_3 6 (fun _ => 0) ++ (aI E q_2 6 (fun _ => 0) ++ (oV q_1 2 ([.int (nI 0), .int (nI 0), .int (nI 0)]) ++ tl))))) (k' := 4) (n' := 21) rfl rfl rfl rfl rfl ?_
  refine q_perm pf1 ?_
  refine q_putF F (j := 4) 0 rfl rfl hi5 tyX5 tyX5_ok nmX5 (by decide) hf25_5 rfl rfl hnm_ rfl rfl rfl (Nat.le_of_ble_eq_true rfl) dX5_init_36 (ws' := oV q 5 ([.null, .ref q_1, .ref q_2, .ref q_3, .ref q_4, .null, .null, .null, .null, .int (nI 0)]) ++ (aI E q_4 6 (fun _ => 0) ++ (aI E q_3 6 (fun _ => 0) ++ (aI E q_2 6 (fun _ => 0) ++ (oV q_1 2 ([.int (nI 0), .int (nI 0), .int (nI 0)]) ++ tl))))) rfl ?_
  refine q_aload_n F 0 dX5_init_39 rfl ?_
  refine q_bipush F dX5_init_40 (v := nI 6) (by decide) ?_
  refine q_newI F (N := 6) hac_int rfl (by decide) (Nat.le_of_ble_eq_true rfl) (Nat.le_of_ble_eq_true rfl) dX5_init_42 (fun q_5 => ?_)
  refine q_at (pc' := 44) (st' := [.ref q_5, .ref q]) (ws' := aI E q_5 6 (fun _ => 0) ++ (oV q 5 ([.null, .ref q_1, .ref q_2, .ref q_3, .ref q_4, .null, .null, .null, .null, .int (nI 0)]) ++ (aI E q_4 6 (fun _ => 0) ++ (aI E q_3 6 (fun _ => 0) ++ (aI E q_2 6 (fun _ => 0) ++ (oV q_1 2 ([.int (nI 0), .int (nI 0), .int (nI 0)]) ++ tl)))))) (k' := 5) (n' := 27) rfl rfl rfl rfl rfl ?_
  refine q_perm pf1 ?_
  refine q_putF F (j := 5) 0 rfl rfl hi5 tyX5 tyX5_ok nmX5 (by decide) hf28_5 rfl rfl hnm_ rfl rfl rfl (Nat.le_of_ble_eq_true rfl) dX5_init_44 (ws' := oV q 5 ([.null, .ref q_1, .ref q_2, .ref q_3, .ref q_4, .ref q_5, .null, .null, .null, .int (nI 0)]) ++ (aI E q_5 6 (fun _ => 0) ++ (aI E q_4 6 (fun _ => 0) ++ (aI E q_3 6 (fun _ => 0) ++ (aI E q_2 6 (fun _ => 0) ++ (oV q_1 2 ([.int (nI 0), .int (nI 0), .int (nI 0)]) ++ tl)))))) rfl ?_
  refine q_aload_n F 0 dX5_init_47 rfl ?_
  refine q_bipush F dX5_init_48 (v := nI 6) (by decide) ?_
  refine q_newI F (N := 6) hac_int rfl (by decide) (Nat.le_of_ble_eq_true rfl) (Nat.le_of_ble_eq_true rfl) dX5_init_50 (fun q_6 => ?_)
  refine q_at (pc' := 52) (st' := [.ref q_6, .ref q]) (ws' := aI E q_6 6 (fun _ => 0) ++ (oV q 5 ([.null, .ref q_1, .ref q_2, .ref q_3, .ref q_4, .ref q_5, .null, .null, .null, .int (nI 0)]) ++ (aI E q_5 6 (fun _ => 0) ++ (aI E q_4 6 (fun _ => 0) ++ (aI E q_3 6 (fun _ => 0) ++ (aI E q_2 6 (fun _ => 0) ++ (oV q_1 2 ([.int (nI 0), .int (nI 0), .int (nI 0)]) ++ tl))))))) (k' := 6) (n' := 33) rfl rfl rfl rfl rfl ?_
  refine q_perm pf1 ?_
  refine q_putF F (j := 6) 0 rfl rfl hi5 tyX5 tyX5_ok nmX5 (by decide) hf31_5 rfl rfl hnm_ rfl rfl rfl (Nat.le_of_ble_eq_true rfl) dX5_init_52 (ws' := oV q 5 ([.null, .ref q_1, .ref q_2, .ref q_3, .ref q_4, .ref q_5, .ref q_6, .null, .null, .int (nI 0)]) ++ (aI E q_6 6 (fun _ => 0) ++ (aI E q_5 6 (fun _ => 0) ++ (aI E q_4 6 (fun _ => 0) ++ (aI E q_3 6 (fun _ => 0) ++ (aI E q_2 6 (fun _ => 0) ++ (oV q_1 2 ([.int (nI 0), .int (nI 0), .int (nI 0)]) ++ tl))))))) rfl ?_
  refine q_aload_n F 0 dX5_init_55 rfl ?_
  refine q_bipush F dX5_init_56 (v := nI 6) (by decide) ?_
  refine q_newI F (N := 6) hac_int rfl (by decide) (Nat.le_of_ble_eq_true rfl) (Nat.le_of_ble_eq_true rfl) dX5_init_58 (fun q_7 => ?_)
  refine q_at (pc' := 60) (st' := [.ref q_7, .ref q]) (ws' := aI E q_7 6 (fun _ => 0) ++ (oV q 5 ([.null, .ref q_1, .ref q_2, .ref q_3, .ref q_4, .ref q_5, .ref q_6, .null, .null, .int (nI 0)]) ++ (aI E q_6 6 (fun _ => 0) ++ (aI E q_5 6 (fun _ => 0) ++ (aI E q_4 6 (fun _ => 0) ++ (aI E q_3 6 (fun _ => 0) ++ (aI E q_2 6 (fun _ => 0) ++ (oV q_1 2 ([.int (nI 0), .int (nI 0), .int (nI 0)]) ++ tl)))))))) (k' := 7) (n' := 39) rfl rfl rfl rfl rfl ?_
  refine q_perm pf1 ?_
  refine q_putF F (j := 7) 0 rfl rfl hi5 tyX5 tyX5_ok nmX5 (by decide) hf34_5 rfl rfl hnm_ rfl rfl rfl (Nat.le_of_ble_eq_true rfl) dX5_init_60 (ws' := oV q 5 ([.null, .ref q_1, .ref q_2, .ref q_3, .ref q_4, .ref q_5, .ref q_6, .ref q_7, .null, .int (nI 0)]) ++ (aI E q_7 6 (fun _ => 0) ++ (aI E q_6 6 (fun _ => 0) ++ (aI E q_5 6 (fun _ => 0) ++ (aI E q_4 6 (fun _ => 0) ++ (aI E q_3 6 (fun _ => 0) ++ (aI E q_2 6 (fun _ => 0) ++ (oV q_1 2 ([.int (nI 0), .int (nI 0), .int (nI 0)]) ++ tl)))))))) rfl ?_
  refine q_aload_n F 0 dX5_init_63 rfl ?_
  refine q_bipush F dX5_init_64 (v := nI 6) (by decide) ?_
  refine q_newZ F (N := 6) hac_boolean rfl (by decide) (Nat.le_of_ble_eq_true rfl) (Nat.le_of_ble_eq_true rfl) dX5_init_66 (fun q_8 => ?_)
  refine q_at (pc' := 68) (st' := [.ref q_8, .ref q]) (ws' := aZ E q_8 6 (fun _ => 0) ++ (oV q 5 ([.null, .ref q_1, .ref q_2, .ref q_3, .ref q_4, .ref q_5, .ref q_6, .ref q_7, .null, .int (nI 0)]) ++ (aI E q_7 6 (fun _ => 0) ++ (aI E q_6 6 (fun _ => 0) ++ (aI E q_5 6 (fun _ => 0) ++ (aI E q_4 6 (fun _ => 0) ++ (aI E q_3 6 (fun _ => 0) ++ (aI E q_2 6 (fun _ => 0) ++ (oV q_1 2 ([.int (nI 0), .int (nI 0), .int (nI 0)]) ++ tl))))))))) (k' := 8) (n' := 45) rfl rfl rfl rfl rfl ?_
  refine q_perm pf1 ?_
  refine q_putF F (j := 8) 0 rfl rfl hi5 tyX5 tyX5_ok nmX5 (by decide) hf37_5 rfl rfl hnm_ rfl rfl rfl (Nat.le_of_ble_eq_true rfl) dX5_init_68 (ws' := oV q 5 ([.null, .ref q_1, .ref q_2, .ref q_3, .ref q_4, .ref q_5, .ref q_6, .ref q_7, .ref q_8, .int (nI 0)]) ++ (aZ E q_8 6 (fun _ => 0) ++ (aI E q_7 6 (fun _ => 0) ++ (aI E q_6 6 (fun _ => 0) ++ (aI E q_5 6 (fun _ => 0) ++ (aI E q_4 6 (fun _ => 0) ++ (aI E q_3 6 (fun _ => 0) ++ (aI E q_2 6 (fun _ => 0) ++ (oV q_1 2 ([.int (nI 0), .int (nI 0), .int (nI 0)]) ++ tl))))))))) rfl ?_
  refine q_aload_n F 0 dX5_init_71 rfl ?_
  refine q_aload_n F 1 dX5_init_72 rfl ?_
  refine q_putF F (j := 0) 0 rfl rfl hi5 tyX5 tyX5_ok nmX5 (by decide) hf41_5 rfl rfl hnm_ rfl rfl rfl (Nat.le_of_ble_eq_true rfl) dX5_init_73 (ws' := oV q 5 ([.ref t, .ref q_1, .ref q_2, .ref q_3, .ref q_4, .ref q_5, .ref q_6, .ref q_7, .ref q_8, .int (nI 0)]) ++ (aZ E q_8 6 (fun _ => 0) ++ (aI E q_7 6 (fun _ => 0) ++ (aI E q_6 6 (fun _ => 0) ++ (aI E q_5 6 (fun _ => 0) ++ (aI E q_4 6 (fun _ => 0) ++ (aI E q_3 6 (fun _ => 0) ++ (aI E q_2 6 (fun _ => 0) ++ (oV q_1 2 ([.int (nI 0), .int (nI 0), .int (nI 0)]) ++ tl))))))))) rfl ?_
  obtain ⟨a, rfl, rfl, rfl, rfl, rfl, rfl, rfl, rfl, rfl⟩ : ∃ a : Nat → Nat, a 0 = q ∧ a 1 = q_1 ∧ a 2 = q_2 ∧ a 3 = q_3 ∧ a 4 = q_4 ∧ a 5 = q_5 ∧ a 6 = q_6 ∧ a 7 = q_7 ∧ a 8 = q_8 := ⟨fun i => match i with | 0 => q | 1 => q_1 | 2 => q_2 | 3 => q_3 | 4 => q_4 | 5 => q_5 | 6 => q_6 | 7 => q_7 | 8 => q_8 | _ => 0, rfl, rfl, rfl, rfl, rfl, rfl, rfl, rfl, rfl⟩
  refine q_perm pf8 ?_
  refine q_perm pf2 ?_
  refine q_perm pf3 ?_
  refine q_perm pf4 ?_
  refine q_perm pf5 ?_
  refine q_perm pf6 ?_
  refine q_perm pf7 ?_
  refine q_perm pf8 ?_
  refine q_perm pf8 ?_
  refine q_at (pc' := 76) (st' := []) (ws' := nC E a t (nI 0) zB ++ (kC (a 1) (nI 0) (nI 0) (nI 0) ++ tl)) (k' := 8) (n' := 45) rfl rfl rfl rfl rfl ?_
  refine q_iconst F dX5_init_76 (v := nI 0) (by decide) ?_
  refine q_istore_n F (lv' := [(2, .int (nI 0)), (0, .ref (a 0)), (1, .ref t)]) dX5_init_77 (by decide) rfl ?_
  have lb78 : ∀ (fu : Nat) (i : Nat) (hi : i ≤ 6), 6 - i < fu → gW p_ l e_ (rmL 2 8 45) s_ m_ args_ below_ meth_ c_ E A_ 3 (MQ below_ (gQ E A_ P_) args_ s_ 8 45 A_) 78 [(0, .ref (a 0)), (2, .int (nI i))] [] (nC E a t (nI 0) (va_up (va_up zB 2 (filc (-1) (zB 2) i)) 3 (filc (-1) (zB 3) i)) ++ (kC (a 1) (nI 0) (nI 0) (nI 0) ++ tl)) 8 45 := by
    intro fu_78
    induction fu_78 with
    | zero => intro i hi hfu; exact absurd hfu (Nat.not_lt_zero _)
    | succ fu_78 ih_78 =>
      intro i hi hfu_78
      refine q_iload_n F 1 dX5_init_78 rfl ?_
      refine q_bipush F dX5_init_79 (v := nI 6) (by decide) ?_
      refine q_icmp_ge F (tgt := 104) dX5_init_81 (by decide) (fun h_81 => ?_) (fun h_81 => ?_)
      · skip
        have hn_81 : i ≥ 6 := nf_ge_t (by omega) (by omega) h_81
        refine q_perm pf1 ?_
        refine q_perm pf1 ?_
        obtain rfl : i = 6 := by omega
        refine q_nB (bgB zB) (by intro i h1 h2 j hj; rcases (show i = 2 ∨ i = 3 ∨ i = 4 ∨ i = 5 ∨ i = 6 ∨ i = 7 ∨ i = 8 by omega) with rfl | rfl | rfl | rfl | rfl | rfl | rfl <;> simp [bgB, zB, va_up, filc, hj]) ?_
        exact q_vret F hr_ dX5_init_104 (hp_ _ _ ⟨rfl, a, rfl, rfl⟩)
      · skip
        have hn_81 : i < 6 := nf_ge_f (by omega) (by omega) h_81
        refine q_aload_n F 0 dX5_init_84 rfl ?_
        refine q_get F (ci := 5) (j := 2) (v := .ref (a 2)) (List.mem_append_left _ (List.mem_of_getElem? (i := 0) rfl)) rfl hi5 (by decide) hf18_5 rfl rfl dX5_init_85 ?_
        refine q_iload_n F 1 dX5_init_88 rfl ?_
        refine q_iconst F dX5_init_89 (v := (-1)) (by decide) ?_
        refine q_iast F 1 rfl i rfl (by omega) (by decide) dX5_init_90 (ws' := nC E a t (nI 0) (va_up (va_up zB 2 (upd (filc (-1) (zB 2) i) i (-1))) 3 (filc (-1) (zB 3) i)) ++ (kC (a 1) (nI 0) (nI 0) (nI 0) ++ tl)) rfl ?_
        refine q_aload_n F 0 dX5_init_91 rfl ?_
        refine q_get F (ci := 5) (j := 3) (v := .ref (a 3)) (List.mem_append_left _ (List.mem_of_getElem? (i := 0) rfl)) rfl hi5 (by decide) hf22_5 rfl rfl dX5_init_92 ?_
        refine q_iload_n F 1 dX5_init_95 rfl ?_
        refine q_iconst F dX5_init_96 (v := (-1)) (by decide) ?_
        refine q_iast F 2 rfl i rfl (by omega) (by decide) dX5_init_97 (ws' := nC E a t (nI 0) (va_up (va_up zB 2 (upd (filc (-1) (zB 2) i) i (-1))) 3 (upd (filc (-1) (zB 3) i) i (-1))) ++ (kC (a 1) (nI 0) (nI 0) (nI 0) ++ tl)) rfl ?_
        refine q_iinc F 1 (v := nI (i + 1)) (lv' := [(2, .int (nI (i + 1))), (0, .ref (a 0))]) dX5_init_98 rfl (nI_1 _) (by decide) rfl ?_
        refine q_goto F (tgt := 78) dX5_init_101 (by decide) ?_
        refine q_lv [1, 0] (lv' := [(0, .ref (a 0)), (2, .int (nI (i + 1)))]) rfl ?_
        refine q_perm pf1 ?_
        refine q_perm pf1 ?_
        refine q_to (lv' := [(0, .ref (a 0)), (2, .int (nI (i + 1)))]) (st' := []) (ws' := nC E a t (nI 0) (va_up (va_up zB 2 (filc (-1) (zB 2) (i + 1))) 3 (filc (-1) (zB 3) (i + 1))) ++ (kC (a 1) (nI 0) (nI 0) (nI 0) ++ tl)) rfl rfl (by simp only [filc_s]) ?_
        exact ih_78 (i + 1) (by omega) (by omega)
  refine q_lv [1, 0] (lv' := [(0, .ref (a 0)), (2, .int (nI 0))]) rfl ?_
  refine q_perm pf1 ?_
  refine q_perm pf1 ?_
  refine q_to (lv' := [(0, .ref (a 0)), (2, .int (nI 0))]) (st' := []) (ws' := nC E a t (nI 0) (va_up (va_up zB 2 (filc (-1) (zB 2) 0)) 3 (filc (-1) (zB 3) 0)) ++ (kC (a 1) (nI 0) (nI 0) (nI 0) ++ tl)) rfl rfl (by simp only [filc_0]; rfl) ?_
  exact lb78 (6 - 0 + 1) 0 (by omega) (Nat.lt_succ_self _)

set_option maxHeartbeats 4000000 in
set_option maxRecDepth 100000 in
theorem c_X7_init (l : Launch) (E : gEnv) (q t : Nat) (tl : va_W) : Cn l E yX7_init wsX7_init (rmL 2 10 40) [.ref q, .ref t] (oV q 7 ([.null, .null, .null, .null, .int (nI 0), .int (nI 0), .int (nI 0), .int (nI 0), .int (nI 0)]) ++ tl) 10 40 (fun v w => v = none ∧ ∃ (r kd : Nat → Nat), r 0 = q ∧ w = rC E r t kd zF zF zF ++ (ksC kd zF zF zF ++ tl)) := by
  refine Cn.of (own := RX7) (cc := cX7_init) (maxL := 3) (ret := none) (lv := [(0, .ref q), (1, .ref t)]) (by decide) rfl rfl (Nat.le_of_ble_eq_true rfl) rfl ?_
  intro p_ e_ s_ m_ args_ below_ meth_ c_ A_ P_ hp_ F hr_ hnm_
  have ho_0 : Cond.methodLink RX7 3 Lib.objectInit ∈ wsX7_init := by decide +kernel
  have ho_1 : Cond.instanceMethod Lib.objectInit ∈ wsX7_init := by decide +kernel
  have ho_2 : Cond.code Lib.objectInit ⟨#[0xb1]⟩ 1 none ∈ wsX7_init := by decide +kernel
  have hcl9 : Cond.classLink RX7 9 RX2 ∈ wsX7_init := by decide +kernel
  have hf11_7 : Cond.fieldLink RX7 11 "KeyOnStreet$Rounds" (TX7 1).2.1 (TX7 1).2.2.1 ∈ wsX7_init := by decide +kernel
  have hi7 : ∀ w ∈ u_ws RX7 TX7 9, w ∈ wsX7_init := by decide +kernel
  have hac_int : Cond.arrayClass .int ∈ wsX7_init := by decide +kernel
  have hf17_7 : Cond.fieldLink RX7 17 "KeyOnStreet$Rounds" (TX7 2).2.1 (TX7 2).2.2.1 ∈ wsX7_init := by decide +kernel
  have hf21_7 : Cond.fieldLink RX7 21 "KeyOnStreet$Rounds" (TX7 3).2.1 (TX7 3).2.2.1 ∈ wsX7_init := by decide +kernel
  have hf24_7 : Cond.fieldLink RX7 24 "KeyOnStreet$Rounds" (TX7 0).2.1 (TX7 0).2.2.1 ∈ wsX7_init := by decide +kernel
  have hi2 : ∀ w ∈ u_ws RX2 TX2 3, w ∈ wsX7_init := by decide +kernel
  have hia2 : Cond.instantiable RX2 3 ∈ wsX7_init := by decide +kernel
  have hit2 : Cond.initialized RX2 ∈ wsX7_init := by decide +kernel
  have hd_X2_init : yX2_init.cls ≠ "java/lang/invoke/MethodHandle" ∧ yX2_init.cls ≠ "java/lang/invoke/VarHandle" ∧ (parseMethodDescriptor yX2_init.desc).map (fun d => d.parameters.length) = some 0 := by decide +kernel
  have hini_X2_init : Cond.initialized yX2_init.cls ∈ wsX7_init := by decide +kernel
  have hinm_X2_init : Cond.instanceMethod yX2_init ∈ wsX7_init := by decide +kernel
  have hnl_28 : (RX7, 28, yX2_init) ∈ gNl := by decide +kernel
  refine q_aload_n F 0 dX7_init_0 rfl ?_
  refine q_objInit F ho_0 ho_1 ho_2 (by decide) (Nat.le_of_ble_eq_true rfl) dX7_init_1 ?_
  refine q_aload_n F 0 dX7_init_4 rfl ?_
  refine q_bipush F dX7_init_5 (v := nI 7) (by decide) ?_
  refine q_newq3 F (N := 7) hcl9 rfl (by decide) (Nat.le_of_ble_eq_true rfl) (Nat.le_of_ble_eq_true rfl) dX7_init_7 (fun q_1 => ?_)
  refine q_at (pc' := 10) (st' := [.ref q_1, .ref q]) (ws' := aR E 3 q_1 7 (fun _ => none) ++ (oV q 7 ([.null, .null, .null, .null, .int (nI 0), .int (nI 0), .int (nI 0), .int (nI 0), .int (nI 0)]) ++ tl)) (k' := 1) (n' := 7) rfl rfl rfl rfl rfl ?_
  refine q_perm pf1 ?_
  refine q_putF F (j := 1) 0 rfl rfl hi7 tyX7 tyX7_ok nmX7 (by decide) hf11_7 rfl rfl hnm_ rfl rfl rfl (Nat.le_of_ble_eq_true rfl) dX7_init_10 (ws' := oV q 7 ([.null, .ref q_1, .null, .null, .int (nI 0), .int (nI 0), .int (nI 0), .int (nI 0), .int (nI 0)]) ++ (aR E 3 q_1 7 (fun _ => none) ++ tl)) rfl ?_
  refine q_aload_n F 0 dX7_init_13 rfl ?_
  refine q_bipush F dX7_init_14 (v := nI 6) (by decide) ?_
  refine q_newI F (N := 6) hac_int rfl (by decide) (Nat.le_of_ble_eq_true rfl) (Nat.le_of_ble_eq_true rfl) dX7_init_16 (fun q_2 => ?_)
  refine q_at (pc' := 18) (st' := [.ref q_2, .ref q]) (ws' := aI E q_2 6 (fun _ => 0) ++ (oV q 7 ([.null, .ref q_1, .null, .null, .int (nI 0), .int (nI 0), .int (nI 0), .int (nI 0), .int (nI 0)]) ++ (aR E 3 q_1 7 (fun _ => none) ++ tl))) (k' := 2) (n' := 13) rfl rfl rfl rfl rfl ?_
  refine q_perm pf1 ?_
  refine q_putF F (j := 2) 0 rfl rfl hi7 tyX7 tyX7_ok nmX7 (by decide) hf17_7 rfl rfl hnm_ rfl rfl rfl (Nat.le_of_ble_eq_true rfl) dX7_init_18 (ws' := oV q 7 ([.null, .ref q_1, .ref q_2, .null, .int (nI 0), .int (nI 0), .int (nI 0), .int (nI 0), .int (nI 0)]) ++ (aI E q_2 6 (fun _ => 0) ++ (aR E 3 q_1 7 (fun _ => none) ++ tl))) rfl ?_
  refine q_aload_n F 0 dX7_init_21 rfl ?_
  refine q_bipush F dX7_init_22 (v := nI 6) (by decide) ?_
  refine q_newI F (N := 6) hac_int rfl (by decide) (Nat.le_of_ble_eq_true rfl) (Nat.le_of_ble_eq_true rfl) dX7_init_24 (fun q_3 => ?_)
  refine q_at (pc' := 26) (st' := [.ref q_3, .ref q]) (ws' := aI E q_3 6 (fun _ => 0) ++ (oV q 7 ([.null, .ref q_1, .ref q_2, .null, .int (nI 0), .int (nI 0), .int (nI 0), .int (nI 0), .int (nI 0)]) ++ (aI E q_2 6 (fun _ => 0) ++ (aR E 3 q_1 7 (fun _ => none) ++ tl)))) (k' := 3) (n' := 19) rfl rfl rfl rfl rfl ?_
  refine q_perm pf1 ?_
  refine q_putF F (j := 3) 0 rfl rfl hi7 tyX7 tyX7_ok nmX7 (by decide) hf21_7 rfl rfl hnm_ rfl rfl rfl (Nat.le_of_ble_eq_true rfl) dX7_init_26 (ws' := oV q 7 ([.null, .ref q_1, .ref q_2, .ref q_3, .int (nI 0), .int (nI 0), .int (nI 0), .int (nI 0), .int (nI 0)]) ++ (aI E q_3 6 (fun _ => 0) ++ (aI E q_2 6 (fun _ => 0) ++ (aR E 3 q_1 7 (fun _ => none) ++ tl)))) rfl ?_
  refine q_aload_n F 0 dX7_init_29 rfl ?_
  refine q_aload_n F 1 dX7_init_30 rfl ?_
  refine q_putF F (j := 0) 0 rfl rfl hi7 tyX7 tyX7_ok nmX7 (by decide) hf24_7 rfl rfl hnm_ rfl rfl rfl (Nat.le_of_ble_eq_true rfl) dX7_init_31 (ws' := oV q 7 ([.ref t, .ref q_1, .ref q_2, .ref q_3, .int (nI 0), .int (nI 0), .int (nI 0), .int (nI 0), .int (nI 0)]) ++ (aI E q_3 6 (fun _ => 0) ++ (aI E q_2 6 (fun _ => 0) ++ (aR E 3 q_1 7 (fun _ => none) ++ tl)))) rfl ?_
  obtain ⟨r, rfl, rfl, rfl, rfl⟩ : ∃ r : Nat → Nat, r 0 = q ∧ r 1 = q_1 ∧ r 2 = q_2 ∧ r 3 = q_3 := ⟨fun i => match i with | 0 => q | 1 => q_1 | 2 => q_2 | 3 => q_3 | _ => 0, rfl, rfl, rfl, rfl⟩
  obtain ⟨kd0, hkd0⟩ : ∃ kd0 : Nat → Nat, kd0 = fun _ => 0 := ⟨_, rfl⟩
  refine q_perm pf1 ?_
  refine q_perm pf2 ?_
  refine q_perm pf3 ?_
  refine q_perm pf3 ?_
  refine q_at (pc' := 34) (st' := []) (ws' := oV (r 0) 7 ([.ref t, .ref (r 1), .ref (r 2), .ref (r 3), .int (nI 0), .int (nI 0), .int (nI 0), .int (nI 0), .int (nI 0)]) ++ (aR E 3 (r 1) 7 (kyR kd0 0) ++ (aI E (r 2) 6 zF ++ (aI E (r 3) 6 zF ++ (ksI kd0 0 ++ tl))))) (k' := 3) (n' := 19) rfl rfl (by rw [kyR_0]; rfl) rfl rfl ?_
  refine q_iconst F dX7_init_34 (v := nI 0) (by decide) ?_
  refine q_istore_n F (lv' := [(2, .int (nI 0)), (0, .ref (r 0)), (1, .ref t)]) dX7_init_35 (by decide) rfl ?_
  have lb36 : ∀ (fu : Nat) (i : Nat) (kd9 : Nat → Nat) (hi : i ≤ 7), 7 - i < fu → gW p_ l e_ (rmL 2 10 40) s_ m_ args_ below_ meth_ c_ E A_ 3 (MQ below_ (gQ E A_ P_) args_ s_ 10 40 A_) 36 [(0, .ref (r 0)), (2, .int (nI i))] [] (oV (r 0) 7 ([.ref t, .ref (r 1), .ref (r 2), .ref (r 3), .int (nI 0), .int (nI 0), .int (nI 0), .int (nI 0), .int (nI 0)]) ++ (aR E 3 (r 1) 7 (kyR kd9 i) ++ (aI E (r 2) 6 zF ++ (aI E (r 3) 6 zF ++ (ksI kd9 i ++ tl))))) (3 + i) (19 + 3 * i) := by
    intro fu_36
    induction fu_36 with
    | zero => intro i kd9 hi hfu; exact absurd hfu (Nat.not_lt_zero _)
    | succ fu_36 ih_36 =>
      intro i kd9 hi hfu_36
      refine q_iload_n F 1 dX7_init_36 rfl ?_
      refine q_bipush F dX7_init_37 (v := nI 6) (by decide) ?_
      refine q_icmp_gt F (tgt := 61) dX7_init_39 (by decide) (fun h_39 => ?_) (fun h_39 => ?_)
      · skip
        have hn_39 : i > 6 := nf_gt_t (by omega) (by omega) h_39
        refine q_perm pf4 ?_
        refine q_perm pf4 ?_
        refine q_perm pf4 ?_
        refine q_perm pf4 ?_
        refine q_perm pf4 ?_
        obtain rfl : i = 7 := by omega
        exact q_vret F hr_ dX7_init_61 (hp_ _ _ ⟨rfl, r, kd9, rfl, rfl⟩)
      · skip
        have hn_39 : i ≤ 6 := nf_gt_f (by omega) (by omega) h_39
        refine q_aload_n F 0 dX7_init_42 rfl ?_
        refine q_get F (ci := 7) (j := 1) (v := .ref (r 1)) (List.mem_append_left _ (List.mem_of_getElem? (i := 0) rfl)) rfl hi7 (by decide) hf11_7 rfl rfl dX7_init_43 ?_
        refine q_iload_n F 1 dX7_init_46 rfl ?_
        refine q_new F (ci := 2) (fs := [.int (nI 0), .int (nI 0), .int (nI 0)]) rfl hi2 tyX2 tyX2_ok hcl9 hia2 hit2 (by intro j hj; rcases (show j = 0 ∨ j = 1 ∨ j = 2 by omega) with rfl | rfl | rfl <;> rfl) (by show 3 + i + 1 ≤ 10; omega) (by show 19 + 3 * i + 3 ≤ 40; omega) dX7_init_47 (fun q_4 => ?_)
        refine q_at (pc' := 50) (st' := [.ref q_4, .int (nI i), .ref (r 1)]) (ws' := oV q_4 2 ([.int (nI 0), .int (nI 0), .int (nI 0)]) ++ (oV (r 0) 7 ([.ref t, .ref (r 1), .ref (r 2), .ref (r 3), .int (nI 0), .int (nI 0), .int (nI 0), .int (nI 0), .int (nI 0)]) ++ (aR E 3 (r 1) 7 (kyR kd9 i) ++ (aI E (r 2) 6 zF ++ (aI E (r 3) 6 zF ++ (ksI kd9 i ++ tl)))))) (k' := ((3 + i) + 1)) (n' := ((19 + 3 * i) + 3)) rfl rfl rfl rfl rfl ?_
        refine q_dup F dX7_init_50 rfl ?_
        refine q_callIN F (As := []) (rest := [.ref q_4, .int (nI i), .ref (r 1)]) (c_X2_init l E q_4 (nI 0) (nI 0) (nI 0) (oV (r 0) 7 ([.ref t, .ref (r 1), .ref (r 2), .ref (r 3), .int (nI 0), .int (nI 0), .int (nI 0), .int (nI 0), .int (nI 0)]) ++ (aR E 3 (r 1) 7 (kyR kd9 i) ++ (aI E (r 2) 6 zF ++ (aI E (r 3) 6 zF ++ (ksI kd9 i ++ tl)))))) (List.Perm.refl _) gX7_init_X2_init_n28 rfl rfl rfl hini_X2_init hnl_28 hinm_X2_init rfl hd_X2_init ⟨by decide, by decide⟩ rfl (Nat.le_of_ble_eq_true rfl) dX7_init_51 ⟨by show 3 + i + 1 + 0 ≤ 10; omega, by show 19 + 3 * i + 3 + 0 ≤ 40; omega⟩ (fun v_ w_ hvw => ?_)
        rw [hvw.1, hvw.2]
        clear hvw
        refine q_at (pc' := 54) (st' := [.ref q_4, .int (nI i), .ref (r 1)]) (ws' := oV q_4 2 ([.int (nI 0), .int (nI 0), .int (nI 0)]) ++ (oV (r 0) 7 ([.ref t, .ref (r 1), .ref (r 2), .ref (r 3), .int (nI 0), .int (nI 0), .int (nI 0), .int (nI 0), .int (nI 0)]) ++ (aR E 3 (r 1) 7 (kyR kd9 i) ++ (aI E (r 2) 6 zF ++ (aI E (r 3) 6 zF ++ (ksI kd9 i ++ tl)))))) (k' := ((3 + i) + 1)) (n' := ((19 + 3 * i) + 3)) rfl rfl rfl rfl rfl ?_
        refine q_perm pf2 ?_
        refine q_ast3 F 0 rfl i rfl (by omega) (by decide) (List.mem_append_right _ (List.mem_append_left _ (List.mem_of_getElem? (i := 0) rfl))) rfl dX7_init_54 (ws' := aR E 3 (r 1) 7 (va_up (kyR kd9 i) i (some q_4)) ++ (oV q_4 2 ([.int (nI 0), .int (nI 0), .int (nI 0)]) ++ (oV (r 0) 7 ([.ref t, .ref (r 1), .ref (r 2), .ref (r 3), .int (nI 0), .int (nI 0), .int (nI 0), .int (nI 0), .int (nI 0)]) ++ (aI E (r 2) 6 zF ++ (aI E (r 3) 6 zF ++ (ksI kd9 i ++ tl)))))) rfl ?_
        refine q_perm pf5 ?_
        refine q_perm pf2 ?_
        refine q_perm ksI_s ?_
        refine q_widen (k' := 3 + (i + 1)) (n' := 19 + 3 * (i + 1)) (by omega) (by omega) ?_
        refine q_iinc F 1 (v := nI (i + 1)) (lv' := [(2, .int (nI (i + 1))), (0, .ref (r 0))]) dX7_init_55 rfl (nI_1 _) (by decide) rfl ?_
        refine q_goto F (tgt := 36) dX7_init_58 (by decide) ?_
        refine q_lv [1, 0] (lv' := [(0, .ref (r 0)), (2, .int (nI (i + 1)))]) rfl ?_
        refine q_perm pf4 ?_
        refine q_perm pf4 ?_
        refine q_perm pf3 ?_
        refine q_perm pf4 ?_
        refine q_to (lv' := [(0, .ref (r 0)), (2, .int (nI (i + 1)))]) (st' := []) (ws' := oV (r 0) 7 ([.ref t, .ref (r 1), .ref (r 2), .ref (r 3), .int (nI 0), .int (nI 0), .int (nI 0), .int (nI 0), .int (nI 0)]) ++ (aR E 3 (r 1) 7 (kyR (va_up kd9 i q_4) (i + 1)) ++ (aI E (r 2) 6 zF ++ (aI E (r 3) 6 zF ++ (ksI (va_up kd9 i q_4) (i + 1) ++ tl))))) rfl rfl (by rw [kyR_s]) ?_
        exact ih_36 (i + 1) (va_up kd9 i q_4) (by omega) (by omega)
  refine q_lv [1, 0] (lv' := [(0, .ref (r 0)), (2, .int (nI 0))]) rfl ?_
  refine q_perm pf4 ?_
  refine q_perm pf4 ?_
  refine q_perm pf4 ?_
  refine q_perm pf4 ?_
  refine q_perm pf4 ?_
  refine q_to (lv' := [(0, .ref (r 0)), (2, .int (nI 0))]) (st' := []) (ws' := oV (r 0) 7 ([.ref t, .ref (r 1), .ref (r 2), .ref (r 3), .int (nI 0), .int (nI 0), .int (nI 0), .int (nI 0), .int (nI 0)]) ++ (aR E 3 (r 1) 7 (kyR kd0 0) ++ (aI E (r 2) 6 zF ++ (aI E (r 3) 6 zF ++ (ksI kd0 0 ++ tl))))) rfl rfl rfl ?_
  exact lb36 (7 - 0 + 1) 0 kd0 (by omega) (Nat.lt_succ_self _)

set_option maxHeartbeats 4000000 in
set_option maxRecDepth 100000 in
theorem c_X10_init (l : Launch) (E : gEnv) (x : Nat) (tl : va_W) : Cn l E yX10_init wsX10_init (rmL 3 43 259) [.ref x] (oV x 10 ([.null, .null, .null, .null, .null, .null, .int (nI 0), .int (nI 0), .int (nI 0), .int (nI 0), .int (nI 0)]) ++ tl) 43 259 (fun v w => v = none ∧ ∃ (q t a k u r kd : Nat → Nat), w = oC x (q 0) (t 0) (a 0) (k 0) (u 0) (r 0) zF ++ (pC E q 0 zF ++ (tC E t tT0 ++ (nC E a (t 0) (nI 0) (bgB zB) ++ (kC (a 1) (nI 0) (nI 0) (nI 0) ++ (nC E k (t 0) (nI 0) (bgB zB) ++ (kC (k 1) (nI 0) (nI 0) (nI 0) ++ (nC E u (t 0) (nI 0) (bgB zB) ++ (kC (u 1) (nI 0) (nI 0) (nI 0) ++ (rC E r (t 0) kd zF zF zF ++ (ksC kd zF zF zF ++ tl))))))))))) := by
  refine Cn.of (own := RX10) (cc := cX10_init) (maxL := 1) (ret := none) (lv := [(0, .ref x)]) (by decide) rfl rfl (Nat.le_of_ble_eq_true rfl) rfl ?_
  intro p_ e_ s_ m_ args_ below_ meth_ c_ A_ P_ hp_ F hr_ hnm_
  have ho_0 : Cond.methodLink RX10 3 Lib.objectInit ∈ wsX10_init := by decide +kernel
  have ho_1 : Cond.instanceMethod Lib.objectInit ∈ wsX10_init := by decide +kernel
  have ho_2 : Cond.code Lib.objectInit ⟨#[0xb1]⟩ 1 none ∈ wsX10_init := by decide +kernel
  have hi6 : ∀ w ∈ u_ws RX6 TX6 2, w ∈ wsX10_init := by decide +kernel
  have hcl9 : Cond.classLink RX10 9 RX6 ∈ wsX10_init := by decide +kernel
  have hia6 : Cond.instantiable RX6 2 ∈ wsX10_init := by decide +kernel
  have hit6 : Cond.initialized RX6 ∈ wsX10_init := by decide +kernel
  have hd_X6_init : yX6_init.cls ≠ "java/lang/invoke/MethodHandle" ∧ yX6_init.cls ≠ "java/lang/invoke/VarHandle" ∧ (parseMethodDescriptor yX6_init.desc).map (fun d => d.parameters.length) = some 0 := by decide +kernel
  have hini_X6_init : Cond.initialized yX6_init.cls ∈ wsX10_init := by decide +kernel
  have hinm_X6_init : Cond.instanceMethod yX6_init ∈ wsX10_init := by decide +kernel
  have hnl_11 : (RX10, 11, yX6_init) ∈ gNl := by decide +kernel
  have hf12_10 : Cond.fieldLink RX10 12 "KeyOnStreet" (TX10 0).2.1 (TX10 0).2.2.1 ∈ wsX10_init := by decide +kernel
  have hi10 : ∀ w ∈ u_ws RX10 TX10 11, w ∈ wsX10_init := by decide +kernel
  have hi8 : ∀ w ∈ u_ws RX8 TX8 4, w ∈ wsX10_init := by decide +kernel
  have hcl18 : Cond.classLink RX10 18 RX8 ∈ wsX10_init := by decide +kernel
  have hia8 : Cond.instantiable RX8 4 ∈ wsX10_init := by decide +kernel
  have hit8 : Cond.initialized RX8 ∈ wsX10_init := by decide +kernel
  have hd_X8_init : yX8_init.cls ≠ "java/lang/invoke/MethodHandle" ∧ yX8_init.cls ≠ "java/lang/invoke/VarHandle" ∧ (parseMethodDescriptor yX8_init.desc).map (fun d => d.parameters.length) = some 0 := by decide +kernel
  have hini_X8_init : Cond.initialized yX8_init.cls ∈ wsX10_init := by decide +kernel
  have hinm_X8_init : Cond.instanceMethod yX8_init ∈ wsX10_init := by decide +kernel
  have hnl_20 : (RX10, 20, yX8_init) ∈ gNl := by decide +kernel
  have hf21_10 : Cond.fieldLink RX10 21 "KeyOnStreet" (TX10 1).2.1 (TX10 1).2.2.1 ∈ wsX10_init := by decide +kernel
  have hi5 : ∀ w ∈ u_ws RX5 TX5 10, w ∈ wsX10_init := by decide +kernel
  have hcl25 : Cond.classLink RX10 25 RX5 ∈ wsX10_init := by decide +kernel
  have hia5 : Cond.instantiable RX5 10 ∈ wsX10_init := by decide +kernel
  have hit5 : Cond.initialized RX5 ∈ wsX10_init := by decide +kernel
  have hd_X5_init : yX5_init.cls ≠ "java/lang/invoke/MethodHandle" ∧ yX5_init.cls ≠ "java/lang/invoke/VarHandle" ∧ (parseMethodDescriptor yX5_init.desc).map (fun d => d.parameters.length) = some 1 := by decide +kernel
  have hini_X5_init : Cond.initialized yX5_init.cls ∈ wsX10_init := by decide +kernel
  have hinm_X5_init : Cond.instanceMethod yX5_init ∈ wsX10_init := by decide +kernel
  have hlk_27 : Cond.methodLink RX10 27 yX5_init ∈ wsX10_init := by decide +kernel
  have hf30_10 : Cond.fieldLink RX10 30 "KeyOnStreet" (TX10 2).2.1 (TX10 2).2.2.1 ∈ wsX10_init := by decide +kernel
  have hf34_10 : Cond.fieldLink RX10 34 "KeyOnStreet" (TX10 3).2.1 (TX10 3).2.2.1 ∈ wsX10_init := by decide +kernel
  have hf37_10 : Cond.fieldLink RX10 37 "KeyOnStreet" (TX10 4).2.1 (TX10 4).2.2.1 ∈ wsX10_init := by decide +kernel
  have hi7 : ∀ w ∈ u_ws RX7 TX7 9, w ∈ wsX10_init := by decide +kernel
  have hcl40 : Cond.classLink RX10 40 RX7 ∈ wsX10_init := by decide +kernel
  have hia7 : Cond.instantiable RX7 9 ∈ wsX10_init := by decide +kernel
  have hit7 : Cond.initialized RX7 ∈ wsX10_init := by decide +kernel
  have hd_X7_init : yX7_init.cls ≠ "java/lang/invoke/MethodHandle" ∧ yX7_init.cls ≠ "java/lang/invoke/VarHandle" ∧ (parseMethodDescriptor yX7_init.desc).map (fun d => d.parameters.length) = some 1 := by decide +kernel
  have hini_X7_init : Cond.initialized yX7_init.cls ∈ wsX10_init := by decide +kernel
  have hinm_X7_init : Cond.instanceMethod yX7_init ∈ wsX10_init := by decide +kernel
  have hlk_42 : Cond.methodLink RX10 42 yX7_init ∈ wsX10_init := by decide +kernel
  have hf43_10 : Cond.fieldLink RX10 43 "KeyOnStreet" (TX10 5).2.1 (TX10 5).2.2.1 ∈ wsX10_init := by decide +kernel
  refine q_aload_n F 0 dX10_init_0 rfl ?_
  refine q_objInit F ho_0 ho_1 ho_2 (by decide) (Nat.le_of_ble_eq_true rfl) dX10_init_1 ?_
  refine q_aload_n F 0 dX10_init_4 rfl ?_
  refine q_new F (ci := 6) (fs := [.null, .int (nI 0)]) rfl hi6 tyX6 tyX6_ok hcl9 hia6 hit6 (by intro j hj; rcases (show j = 0 ∨ j = 1 by omega) with rfl | rfl <;> rfl) (Nat.le_of_ble_eq_true rfl) (Nat.le_of_ble_eq_true rfl) dX10_init_5 (fun q_1 => ?_)
  refine q_at (pc' := 8) (st' := [.ref q_1, .ref x]) (ws' := oV q_1 6 ([.null, .int (nI 0)]) ++ (oV x 10 ([.null, .null, .null, .null, .null, .null, .int (nI 0), .int (nI 0), .int (nI 0), .int (nI 0), .int (nI 0)]) ++ tl)) (k' := 1) (n' := 2) rfl rfl rfl rfl rfl ?_
  refine q_dup F dX10_init_8 rfl ?_
  refine q_callIN F (As := []) (rest := [.ref q_1, .ref x]) (c_X6_init l E q_1  (oV x 10 ([.null, .null, .null, .null, .null, .null, .int (nI 0), .int (nI 0), .int (nI 0), .int (nI 0), .int (nI 0)]) ++ tl)) (List.Perm.refl _) gX10_init_X6_init_n11 rfl rfl rfl hini_X6_init hnl_11 hinm_X6_init rfl hd_X6_init ⟨by decide, by decide⟩ rfl (Nat.le_of_ble_eq_true rfl) dX10_init_9 ⟨Nat.le_of_ble_eq_true rfl, Nat.le_of_ble_eq_true rfl⟩ (fun v_ w_ hvw => ?_)
  obtain ⟨hv_, pg1, rfl, hw_⟩ := hvw
  rw [hv_, hw_]
  refine q_at (pc' := 12) (st' := [.ref (pg1 0), .ref x]) (ws' := pC E pg1 0 zF ++ (oV x 10 ([.null, .null, .null, .null, .null, .null, .int (nI 0), .int (nI 0), .int (nI 0), .int (nI 0), .int (nI 0)]) ++ tl)) (k' := 2) (n' := 32) rfl rfl rfl rfl rfl ?_
  refine q_perm pf1 ?_
  refine q_putF F (j := 0) 0 rfl rfl hi10 tyX10 tyX10_ok nmX10 (by decide) hf12_10 rfl rfl hnm_ rfl rfl rfl (Nat.le_of_ble_eq_true rfl) dX10_init_12 (ws' := oV x 10 ([.ref (pg1 0), .null, .null, .null, .null, .null, .int (nI 0), .int (nI 0), .int (nI 0), .int (nI 0), .int (nI 0)]) ++ (pC E pg1 0 zF ++ tl)) rfl ?_
  refine q_aload_n F 0 dX10_init_15 rfl ?_
  refine q_new F (ci := 8) (fs := [.null, .null, .int (nI 0), .int (nI 0)]) rfl hi8 tyX8 tyX8_ok hcl18 hia8 hit8 (by intro j hj; rcases (show j = 0 ∨ j = 1 ∨ j = 2 ∨ j = 3 by omega) with rfl | rfl | rfl | rfl <;> rfl) (Nat.le_of_ble_eq_true rfl) (Nat.le_of_ble_eq_true rfl) dX10_init_16 (fun q_4 => ?_)
  refine q_at (pc' := 19) (st' := [.ref q_4, .ref x]) (ws' := oV q_4 8 ([.null, .null, .int (nI 0), .int (nI 0)]) ++ (oV x 10 ([.ref (pg1 0), .null, .null, .null, .null, .null, .int (nI 0), .int (nI 0), .int (nI 0), .int (nI 0), .int (nI 0)]) ++ (pC E pg1 0 zF ++ tl))) (k' := 3) (n' := 36) rfl rfl rfl rfl rfl ?_
  refine q_dup F dX10_init_19 rfl ?_
  refine q_callIN F (As := []) (rest := [.ref q_4, .ref x]) (c_X8_init l E q_4  (oV x 10 ([.ref (pg1 0), .null, .null, .null, .null, .null, .int (nI 0), .int (nI 0), .int (nI 0), .int (nI 0), .int (nI 0)]) ++ (pC E pg1 0 zF ++ tl))) (List.Perm.refl _) gX10_init_X8_init_n20 rfl rfl rfl hini_X8_init hnl_20 hinm_X8_init rfl hd_X8_init ⟨by decide, by decide⟩ rfl (Nat.le_of_ble_eq_true rfl) dX10_init_20 ⟨Nat.le_of_ble_eq_true rfl, Nat.le_of_ble_eq_true rfl⟩ (fun v_ w_ hvw => ?_)
  obtain ⟨hv_, tw4, rfl, hw_⟩ := hvw
  rw [hv_, hw_]
  refine q_at (pc' := 23) (st' := [.ref (tw4 0), .ref x]) (ws' := tC E tw4 tT0 ++ (oV x 10 ([.ref (pg1 0), .null, .null, .null, .null, .null, .int (nI 0), .int (nI 0), .int (nI 0), .int (nI 0), .int (nI 0)]) ++ (pC E pg1 0 zF ++ tl))) (k' := 5) (n' := 45) rfl rfl rfl rfl rfl ?_
  refine q_perm pf1 ?_
  refine q_putF F (j := 1) 0 rfl rfl hi10 tyX10 tyX10_ok nmX10 (by decide) hf21_10 rfl rfl hnm_ rfl rfl rfl (Nat.le_of_ble_eq_true rfl) dX10_init_23 (ws' := oV x 10 ([.ref (pg1 0), .ref (tw4 0), .null, .null, .null, .null, .int (nI 0), .int (nI 0), .int (nI 0), .int (nI 0), .int (nI 0)]) ++ (tC E tw4 tT0 ++ (pC E pg1 0 zF ++ tl))) rfl ?_
  refine q_aload_n F 0 dX10_init_26 rfl ?_
  refine q_new F (ci := 5) (fs := [.null, .null, .null, .null, .null, .null, .null, .null, .null, .int (nI 0)]) rfl hi5 tyX5 tyX5_ok hcl25 hia5 hit5 (by intro j hj; rcases (show j = 0 ∨ j = 1 ∨ j = 2 ∨ j = 3 ∨ j = 4 ∨ j = 5 ∨ j = 6 ∨ j = 7 ∨ j = 8 ∨ j = 9 by omega) with rfl | rfl | rfl | rfl | rfl | rfl | rfl | rfl | rfl | rfl <;> rfl) (Nat.le_of_ble_eq_true rfl) (Nat.le_of_ble_eq_true rfl) dX10_init_27 (fun q_7 => ?_)
  refine q_at (pc' := 30) (st' := [.ref q_7, .ref x]) (ws' := oV q_7 5 ([.null, .null, .null, .null, .null, .null, .null, .null, .null, .int (nI 0)]) ++ (oV x 10 ([.ref (pg1 0), .ref (tw4 0), .null, .null, .null, .null, .int (nI 0), .int (nI 0), .int (nI 0), .int (nI 0), .int (nI 0)]) ++ (tC E tw4 tT0 ++ (pC E pg1 0 zF ++ tl)))) (k' := 6) (n' := 55) rfl rfl rfl rfl rfl ?_
  refine q_dup F dX10_init_30 rfl ?_
  refine q_aload_n F 0 dX10_init_31 rfl ?_
  refine q_get F (ci := 10) (j := 1) (v := .ref (tw4 0)) (List.mem_append_right _ (List.mem_append_left _ (List.mem_of_getElem? (i := 0) rfl))) rfl hi10 (by decide) hf21_10 rfl rfl dX10_init_32 ?_
  refine q_callI F (As := [.ref (tw4 0)]) (rest := [.ref q_7, .ref x]) (c_X5_init l E q_7 (tw4 0) (oV x 10 ([.ref (pg1 0), .ref (tw4 0), .null, .null, .null, .null, .int (nI 0), .int (nI 0), .int (nI 0), .int (nI 0), .int (nI 0)]) ++ (tC E tw4 tT0 ++ (pC E pg1 0 zF ++ tl)))) (List.Perm.refl _) gX10_init_X5_init rfl rfl rfl hini_X5_init hlk_27 hinm_X5_init rfl hd_X5_init ⟨by decide, by decide⟩ rfl (Nat.le_of_ble_eq_true rfl) dX10_init_35 ⟨Nat.le_of_ble_eq_true rfl, Nat.le_of_ble_eq_true rfl⟩ (fun v_ w_ hvw => ?_)
  obtain ⟨hv_, ng7, rfl, hw_⟩ := hvw
  rw [hv_, hw_]
  refine q_at (pc' := 38) (st' := [.ref (ng7 0), .ref x]) (ws' := nC E ng7 (tw4 0) (nI 0) (bgB zB) ++ (kC (ng7 1) (nI 0) (nI 0) (nI 0) ++ (oV x 10 ([.ref (pg1 0), .ref (tw4 0), .null, .null, .null, .null, .int (nI 0), .int (nI 0), .int (nI 0), .int (nI 0), .int (nI 0)]) ++ (tC E tw4 tT0 ++ (pC E pg1 0 zF ++ tl))))) (k' := 14) (n' := 100) rfl rfl rfl rfl rfl ?_
  refine q_perm pf2 ?_
  refine q_putF F (j := 2) 0 rfl rfl hi10 tyX10 tyX10_ok nmX10 (by decide) hf30_10 rfl rfl hnm_ rfl rfl rfl (Nat.le_of_ble_eq_true rfl) dX10_init_38 (ws' := oV x 10 ([.ref (pg1 0), .ref (tw4 0), .ref (ng7 0), .null, .null, .null, .int (nI 0), .int (nI 0), .int (nI 0), .int (nI 0), .int (nI 0)]) ++ (nC E ng7 (tw4 0) (nI 0) (bgB zB) ++ (kC (ng7 1) (nI 0) (nI 0) (nI 0) ++ (tC E tw4 tT0 ++ (pC E pg1 0 zF ++ tl))))) rfl ?_
  refine q_aload_n F 0 dX10_init_41 rfl ?_
  refine q_new F (ci := 5) (fs := [.null, .null, .null, .null, .null, .null, .null, .null, .null, .int (nI 0)]) rfl hi5 tyX5 tyX5_ok hcl25 hia5 hit5 (by intro j hj; rcases (show j = 0 ∨ j = 1 ∨ j = 2 ∨ j = 3 ∨ j = 4 ∨ j = 5 ∨ j = 6 ∨ j = 7 ∨ j = 8 ∨ j = 9 by omega) with rfl | rfl | rfl | rfl | rfl | rfl | rfl | rfl | rfl | rfl <;> rfl) (Nat.le_of_ble_eq_true rfl) (Nat.le_of_ble_eq_true rfl) dX10_init_42 (fun q_10 => ?_)
  refine q_at (pc' := 45) (st' := [.ref q_10, .ref x]) (ws' := oV q_10 5 ([.null, .null, .null, .null, .null, .null, .null, .null, .null, .int (nI 0)]) ++ (oV x 10 ([.ref (pg1 0), .ref (tw4 0), .ref (ng7 0), .null, .null, .null, .int (nI 0), .int (nI 0), .int (nI 0), .int (nI 0), .int (nI 0)]) ++ (nC E ng7 (tw4 0) (nI 0) (bgB zB) ++ (kC (ng7 1) (nI 0) (nI 0) (nI 0) ++ (tC E tw4 tT0 ++ (pC E pg1 0 zF ++ tl)))))) (k' := 15) (n' := 110) rfl rfl rfl rfl rfl ?_
  refine q_dup F dX10_init_45 rfl ?_
  refine q_aload_n F 0 dX10_init_46 rfl ?_
  refine q_get F (ci := 10) (j := 1) (v := .ref (tw4 0)) (List.mem_append_right _ (List.mem_append_left _ (List.mem_of_getElem? (i := 0) rfl))) rfl hi10 (by decide) hf21_10 rfl rfl dX10_init_47 ?_
  refine q_callI F (As := [.ref (tw4 0)]) (rest := [.ref q_10, .ref x]) (c_X5_init l E q_10 (tw4 0) (oV x 10 ([.ref (pg1 0), .ref (tw4 0), .ref (ng7 0), .null, .null, .null, .int (nI 0), .int (nI 0), .int (nI 0), .int (nI 0), .int (nI 0)]) ++ (nC E ng7 (tw4 0) (nI 0) (bgB zB) ++ (kC (ng7 1) (nI 0) (nI 0) (nI 0) ++ (tC E tw4 tT0 ++ (pC E pg1 0 zF ++ tl)))))) (List.Perm.refl _) gX10_init_X5_init rfl rfl rfl hini_X5_init hlk_27 hinm_X5_init rfl hd_X5_init ⟨by decide, by decide⟩ rfl (Nat.le_of_ble_eq_true rfl) dX10_init_50 ⟨Nat.le_of_ble_eq_true rfl, Nat.le_of_ble_eq_true rfl⟩ (fun v_ w_ hvw => ?_)
  obtain ⟨hv_, ng10, rfl, hw_⟩ := hvw
  rw [hv_, hw_]
  refine q_at (pc' := 53) (st' := [.ref (ng10 0), .ref x]) (ws' := nC E ng10 (tw4 0) (nI 0) (bgB zB) ++ (kC (ng10 1) (nI 0) (nI 0) (nI 0) ++ (oV x 10 ([.ref (pg1 0), .ref (tw4 0), .ref (ng7 0), .null, .null, .null, .int (nI 0), .int (nI 0), .int (nI 0), .int (nI 0), .int (nI 0)]) ++ (nC E ng7 (tw4 0) (nI 0) (bgB zB) ++ (kC (ng7 1) (nI 0) (nI 0) (nI 0) ++ (tC E tw4 tT0 ++ (pC E pg1 0 zF ++ tl))))))) (k' := 23) (n' := 155) rfl rfl rfl rfl rfl ?_
  refine q_perm pf2 ?_
  refine q_putF F (j := 3) 0 rfl rfl hi10 tyX10 tyX10_ok nmX10 (by decide) hf34_10 rfl rfl hnm_ rfl rfl rfl (Nat.le_of_ble_eq_true rfl) dX10_init_53 (ws' := oV x 10 ([.ref (pg1 0), .ref (tw4 0), .ref (ng7 0), .ref (ng10 0), .null, .null, .int (nI 0), .int (nI 0), .int (nI 0), .int (nI 0), .int (nI 0)]) ++ (nC E ng10 (tw4 0) (nI 0) (bgB zB) ++ (kC (ng10 1) (nI 0) (nI 0) (nI 0) ++ (nC E ng7 (tw4 0) (nI 0) (bgB zB) ++ (kC (ng7 1) (nI 0) (nI 0) (nI 0) ++ (tC E tw4 tT0 ++ (pC E pg1 0 zF ++ tl))))))) rfl ?_
  refine q_aload_n F 0 dX10_init_56 rfl ?_
  refine q_new F (ci := 5) (fs := [.null, .null, .null, .null, .null, .null, .null, .null, .null, .int (nI 0)]) rfl hi5 tyX5 tyX5_ok hcl25 hia5 hit5 (by intro j hj; rcases (show j = 0 ∨ j = 1 ∨ j = 2 ∨ j = 3 ∨ j = 4 ∨ j = 5 ∨ j = 6 ∨ j = 7 ∨ j = 8 ∨ j = 9 by omega) with rfl | rfl | rfl | rfl | rfl | rfl | rfl | rfl | rfl | rfl <;> rfl) (Nat.le_of_ble_eq_true rfl) (Nat.le_of_ble_eq_true rfl) dX10_init_57 (fun q_13 => ?_)
  refine q_at (pc' := 60) (st' := [.ref q_13, .ref x]) (ws' := oV q_13 5 ([.null, .null, .null, .null, .null, .null, .null, .null, .null, .int (nI 0)]) ++ (oV x 10 ([.ref (pg1 0), .ref (tw4 0), .ref (ng7 0), .ref (ng10 0), .null, .null, .int (nI 0), .int (nI 0), .int (nI 0), .int (nI 0), .int (nI 0)]) ++ (nC E ng10 (tw4 0) (nI 0) (bgB zB) ++ (kC (ng10 1) (nI 0) (nI 0) (nI 0) ++ (nC E ng7 (tw4 0) (nI 0) (bgB zB) ++ (kC (ng7 1) (nI 0) (nI 0) (nI 0) ++ (tC E tw4 tT0 ++ (pC E pg1 0 zF ++ tl)))))))) (k' := 24) (n' := 165) rfl rfl rfl rfl rfl ?_
  refine q_dup F dX10_init_60 rfl ?_
  refine q_aload_n F 0 dX10_init_61 rfl ?_
  refine q_get F (ci := 10) (j := 1) (v := .ref (tw4 0)) (List.mem_append_right _ (List.mem_append_left _ (List.mem_of_getElem? (i := 0) rfl))) rfl hi10 (by decide) hf21_10 rfl rfl dX10_init_62 ?_
  refine q_callI F (As := [.ref (tw4 0)]) (rest := [.ref q_13, .ref x]) (c_X5_init l E q_13 (tw4 0) (oV x 10 ([.ref (pg1 0), .ref (tw4 0), .ref (ng7 0), .ref (ng10 0), .null, .null, .int (nI 0), .int (nI 0), .int (nI 0), .int (nI 0), .int (nI 0)]) ++ (nC E ng10 (tw4 0) (nI 0) (bgB zB) ++ (kC (ng10 1) (nI 0) (nI 0) (nI 0) ++ (nC E ng7 (tw4 0) (nI 0) (bgB zB) ++ (kC (ng7 1) (nI 0) (nI 0) (nI 0) ++ (tC E tw4 tT0 ++ (pC E pg1 0 zF ++ tl)))))))) (List.Perm.refl _) gX10_init_X5_init rfl rfl rfl hini_X5_init hlk_27 hinm_X5_init rfl hd_X5_init ⟨by decide, by decide⟩ rfl (Nat.le_of_ble_eq_true rfl) dX10_init_65 ⟨Nat.le_of_ble_eq_true rfl, Nat.le_of_ble_eq_true rfl⟩ (fun v_ w_ hvw => ?_)
  obtain ⟨hv_, ng13, rfl, hw_⟩ := hvw
  rw [hv_, hw_]
  refine q_at (pc' := 68) (st' := [.ref (ng13 0), .ref x]) (ws' := nC E ng13 (tw4 0) (nI 0) (bgB zB) ++ (kC (ng13 1) (nI 0) (nI 0) (nI 0) ++ (oV x 10 ([.ref (pg1 0), .ref (tw4 0), .ref (ng7 0), .ref (ng10 0), .null, .null, .int (nI 0), .int (nI 0), .int (nI 0), .int (nI 0), .int (nI 0)]) ++ (nC E ng10 (tw4 0) (nI 0) (bgB zB) ++ (kC (ng10 1) (nI 0) (nI 0) (nI 0) ++ (nC E ng7 (tw4 0) (nI 0) (bgB zB) ++ (kC (ng7 1) (nI 0) (nI 0) (nI 0) ++ (tC E tw4 tT0 ++ (pC E pg1 0 zF ++ tl))))))))) (k' := 32) (n' := 210) rfl rfl rfl rfl rfl ?_
  refine q_perm pf2 ?_
  refine q_putF F (j := 4) 0 rfl rfl hi10 tyX10 tyX10_ok nmX10 (by decide) hf37_10 rfl rfl hnm_ rfl rfl rfl (Nat.le_of_ble_eq_true rfl) dX10_init_68 (ws' := oV x 10 ([.ref (pg1 0), .ref (tw4 0), .ref (ng7 0), .ref (ng10 0), .ref (ng13 0), .null, .int (nI 0), .int (nI 0), .int (nI 0), .int (nI 0), .int (nI 0)]) ++ (nC E ng13 (tw4 0) (nI 0) (bgB zB) ++ (kC (ng13 1) (nI 0) (nI 0) (nI 0) ++ (nC E ng10 (tw4 0) (nI 0) (bgB zB) ++ (kC (ng10 1) (nI 0) (nI 0) (nI 0) ++ (nC E ng7 (tw4 0) (nI 0) (bgB zB) ++ (kC (ng7 1) (nI 0) (nI 0) (nI 0) ++ (tC E tw4 tT0 ++ (pC E pg1 0 zF ++ tl))))))))) rfl ?_
  refine q_aload_n F 0 dX10_init_71 rfl ?_
  refine q_new F (ci := 7) (fs := [.null, .null, .null, .null, .int (nI 0), .int (nI 0), .int (nI 0), .int (nI 0), .int (nI 0)]) rfl hi7 tyX7 tyX7_ok hcl40 hia7 hit7 (by intro j hj; rcases (show j = 0 ∨ j = 1 ∨ j = 2 ∨ j = 3 ∨ j = 4 ∨ j = 5 ∨ j = 6 ∨ j = 7 ∨ j = 8 by omega) with rfl | rfl | rfl | rfl | rfl | rfl | rfl | rfl | rfl <;> rfl) (Nat.le_of_ble_eq_true rfl) (Nat.le_of_ble_eq_true rfl) dX10_init_72 (fun q_16 => ?_)
  refine q_at (pc' := 75) (st' := [.ref q_16, .ref x]) (ws' := oV q_16 7 ([.null, .null, .null, .null, .int (nI 0), .int (nI 0), .int (nI 0), .int (nI 0), .int (nI 0)]) ++ (oV x 10 ([.ref (pg1 0), .ref (tw4 0), .ref (ng7 0), .ref (ng10 0), .ref (ng13 0), .null, .int (nI 0), .int (nI 0), .int (nI 0), .int (nI 0), .int (nI 0)]) ++ (nC E ng13 (tw4 0) (nI 0) (bgB zB) ++ (kC (ng13 1) (nI 0) (nI 0) (nI 0) ++ (nC E ng10 (tw4 0) (nI 0) (bgB zB) ++ (kC (ng10 1) (nI 0) (nI 0) (nI 0) ++ (nC E ng7 (tw4 0) (nI 0) (bgB zB) ++ (kC (ng7 1) (nI 0) (nI 0) (nI 0) ++ (tC E tw4 tT0 ++ (pC E pg1 0 zF ++ tl)))))))))) (k' := 33) (n' := 219) rfl rfl rfl rfl rfl ?_
  refine q_dup F dX10_init_75 rfl ?_
  refine q_aload_n F 0 dX10_init_76 rfl ?_
  refine q_get F (ci := 10) (j := 1) (v := .ref (tw4 0)) (List.mem_append_right _ (List.mem_append_left _ (List.mem_of_getElem? (i := 0) rfl))) rfl hi10 (by decide) hf21_10 rfl rfl dX10_init_77 ?_
  refine q_callI F (As := [.ref (tw4 0)]) (rest := [.ref q_16, .ref x]) (c_X7_init l E q_16 (tw4 0) (oV x 10 ([.ref (pg1 0), .ref (tw4 0), .ref (ng7 0), .ref (ng10 0), .ref (ng13 0), .null, .int (nI 0), .int (nI 0), .int (nI 0), .int (nI 0), .int (nI 0)]) ++ (nC E ng13 (tw4 0) (nI 0) (bgB zB) ++ (kC (ng13 1) (nI 0) (nI 0) (nI 0) ++ (nC E ng10 (tw4 0) (nI 0) (bgB zB) ++ (kC (ng10 1) (nI 0) (nI 0) (nI 0) ++ (nC E ng7 (tw4 0) (nI 0) (bgB zB) ++ (kC (ng7 1) (nI 0) (nI 0) (nI 0) ++ (tC E tw4 tT0 ++ (pC E pg1 0 zF ++ tl)))))))))) (List.Perm.refl _) gX10_init_X7_init rfl rfl rfl hini_X7_init hlk_42 hinm_X7_init rfl hd_X7_init ⟨by decide, by decide⟩ rfl (Nat.le_of_ble_eq_true rfl) dX10_init_80 ⟨Nat.le_of_ble_eq_true rfl, Nat.le_of_ble_eq_true rfl⟩ (fun v_ w_ hvw => ?_)
  obtain ⟨hv_, rd16, kd17, rfl, hw_⟩ := hvw
  rw [hv_, hw_]
  refine q_at (pc' := 83) (st' := [.ref (rd16 0), .ref x]) (ws' := rC E rd16 (tw4 0) kd17 zF zF zF ++ (ksC kd17 zF zF zF ++ (oV x 10 ([.ref (pg1 0), .ref (tw4 0), .ref (ng7 0), .ref (ng10 0), .ref (ng13 0), .null, .int (nI 0), .int (nI 0), .int (nI 0), .int (nI 0), .int (nI 0)]) ++ (nC E ng13 (tw4 0) (nI 0) (bgB zB) ++ (kC (ng13 1) (nI 0) (nI 0) (nI 0) ++ (nC E ng10 (tw4 0) (nI 0) (bgB zB) ++ (kC (ng10 1) (nI 0) (nI 0) (nI 0) ++ (nC E ng7 (tw4 0) (nI 0) (bgB zB) ++ (kC (ng7 1) (nI 0) (nI 0) (nI 0) ++ (tC E tw4 tT0 ++ (pC E pg1 0 zF ++ tl))))))))))) (k' := 43) (n' := 259) rfl rfl rfl rfl rfl ?_
  refine q_perm pf2 ?_
  refine q_putF F (j := 5) 0 rfl rfl hi10 tyX10 tyX10_ok nmX10 (by decide) hf43_10 rfl rfl hnm_ rfl rfl rfl (Nat.le_of_ble_eq_true rfl) dX10_init_83 (ws' := oV x 10 ([.ref (pg1 0), .ref (tw4 0), .ref (ng7 0), .ref (ng10 0), .ref (ng13 0), .ref (rd16 0), .int (nI 0), .int (nI 0), .int (nI 0), .int (nI 0), .int (nI 0)]) ++ (rC E rd16 (tw4 0) kd17 zF zF zF ++ (ksC kd17 zF zF zF ++ (nC E ng13 (tw4 0) (nI 0) (bgB zB) ++ (kC (ng13 1) (nI 0) (nI 0) (nI 0) ++ (nC E ng10 (tw4 0) (nI 0) (bgB zB) ++ (kC (ng10 1) (nI 0) (nI 0) (nI 0) ++ (nC E ng7 (tw4 0) (nI 0) (bgB zB) ++ (kC (ng7 1) (nI 0) (nI 0) (nI 0) ++ (tC E tw4 tT0 ++ (pC E pg1 0 zF ++ tl))))))))))) rfl ?_
  refine q_perm pf2 ?_
  refine q_perm pf2 ?_
  refine q_perm pf4 ?_
  refine q_perm pf4 ?_
  refine q_perm pf6 ?_
  refine q_perm pf6 ?_
  refine q_perm pf8 ?_
  refine q_perm pf8 ?_
  refine q_perm pf9 ?_
  refine q_perm pf10 ?_
  refine q_perm pf10 ?_
  exact q_vret F hr_ dX10_init_86 (hp_ _ _ ⟨rfl, pg1, tw4, ng7, ng10, ng13, rd16, kd17, rfl⟩)

set_option maxHeartbeats 4000000 in
set_option maxRecDepth 100000 in
theorem c_X11_init (l : Launch) (E : gEnv) (x : Nat) (tl : va_W) : Cn l E yX11_init wsX11_init (rmL 1 10 234) [.ref x] (oV x 11 ([.null, .int (nI 0), .int (nI 0), .int (nI 0), .int (nI 0), .int (nI 0), .int (nI 0), .null, .int (nI 0), .int (nI 0), .int (nI 0), .null, .null, .null, .null, .int (nI 0), .int (nI 0), .int (nI 0), .int (nI 0), .int (nI 0), .int (nI 0), .null, .int (nI 0), .null, .int (nI 0), .int (nI 0), .int (nI 0), .int (nI 0), .int (nI 0), .null, .null, .long (0 : Int64)]) ++ tl) 10 234 (fun v w => v = none ∧ ∃ a : Nat → Nat, a 32 = x ∧ w = mC E a (upd zF 24 (-1)) 0 zB ++ tl) := by
  refine Cn.of (own := RX11) (cc := cX11_init) (maxL := 1) (ret := none) (lv := [(0, .ref x)]) (by decide) rfl rfl (Nat.le_of_ble_eq_true rfl) rfl ?_
  intro p_ e_ s_ m_ args_ below_ meth_ c_ A_ P_ hp_ F hr_ hnm_
  have ho_0 : Cond.methodLink RX11 1 Lib.objectInit ∈ wsX11_init := by decide +kernel
  have ho_1 : Cond.instanceMethod Lib.objectInit ∈ wsX11_init := by decide +kernel
  have ho_2 : Cond.code Lib.objectInit ⟨#[0xb1]⟩ 1 none ∈ wsX11_init := by decide +kernel
  have hac_int : Cond.arrayClass .int ∈ wsX11_init := by decide +kernel
  have hf7_11 : Cond.fieldLink RX11 7 "KeyOnStreetModel" (TX11 0).2.1 (TX11 0).2.2.1 ∈ wsX11_init := by decide +kernel
  have hi11 : ∀ w ∈ u_ws RX11 TX11 32, w ∈ wsX11_init := by decide +kernel
  have hf13_11 : Cond.fieldLink RX11 13 "KeyOnStreetModel" (TX11 7).2.1 (TX11 7).2.2.1 ∈ wsX11_init := by decide +kernel
  have hf16_11 : Cond.fieldLink RX11 16 "KeyOnStreetModel" (TX11 11).2.1 (TX11 11).2.2.1 ∈ wsX11_init := by decide +kernel
  have hf19_11 : Cond.fieldLink RX11 19 "KeyOnStreetModel" (TX11 12).2.1 (TX11 12).2.2.1 ∈ wsX11_init := by decide +kernel
  have hf22_11 : Cond.fieldLink RX11 22 "KeyOnStreetModel" (TX11 13).2.1 (TX11 13).2.2.1 ∈ wsX11_init := by decide +kernel
  have hf25_11 : Cond.fieldLink RX11 25 "KeyOnStreetModel" (TX11 14).2.1 (TX11 14).2.2.1 ∈ wsX11_init := by decide +kernel
  have hf28_11 : Cond.fieldLink RX11 28 "KeyOnStreetModel" (TX11 21).2.1 (TX11 21).2.2.1 ∈ wsX11_init := by decide +kernel
  have hf31_11 : Cond.fieldLink RX11 31 "KeyOnStreetModel" (TX11 23).2.1 (TX11 23).2.2.1 ∈ wsX11_init := by decide +kernel
  have hf34_11 : Cond.fieldLink RX11 34 "KeyOnStreetModel" (TX11 29).2.1 (TX11 29).2.2.1 ∈ wsX11_init := by decide +kernel
  have hf37_11 : Cond.fieldLink RX11 37 "KeyOnStreetModel" (TX11 30).2.1 (TX11 30).2.2.1 ∈ wsX11_init := by decide +kernel
  have hf40_11 : Cond.fieldLink RX11 40 "KeyOnStreetModel" (TX11 24).2.1 (TX11 24).2.2.1 ∈ wsX11_init := by decide +kernel
  refine q_aload_n F 0 dX11_init_0 rfl ?_
  refine q_objInit F ho_0 ho_1 ho_2 (by decide) (Nat.le_of_ble_eq_true rfl) dX11_init_1 ?_
  refine q_aload_n F 0 dX11_init_4 rfl ?_
  refine q_bipush F dX11_init_5 (v := nI 30) (by decide) ?_
  refine q_newI F (N := 30) hac_int rfl (by decide) (Nat.le_of_ble_eq_true rfl) (Nat.le_of_ble_eq_true rfl) dX11_init_7 (fun q_1 => ?_)
  refine q_at (pc' := 9) (st' := [.ref q_1, .ref x]) (ws' := aI E q_1 30 (fun _ => 0) ++ (oV x 11 ([.null, .int (nI 0), .int (nI 0), .int (nI 0), .int (nI 0), .int (nI 0), .int (nI 0), .null, .int (nI 0), .int (nI 0), .int (nI 0), .null, .null, .null, .null, .int (nI 0), .int (nI 0), .int (nI 0), .int (nI 0), .int (nI 0), .int (nI 0), .null, .int (nI 0), .null, .int (nI 0), .int (nI 0), .int (nI 0), .int (nI 0), .int (nI 0), .null, .null, .long (0 : Int64)]) ++ tl)) (k' := 1) (n' := 30) rfl rfl rfl rfl rfl ?_
  refine q_perm pf1 ?_
  refine q_putF F (j := 0) 0 rfl rfl hi11 tyX11 tyX11_ok nmX11 (by decide) hf7_11 rfl rfl hnm_ rfl rfl rfl (Nat.le_of_ble_eq_true rfl) dX11_init_9 (ws' := oV x 11 ([.ref q_1, .int (nI 0), .int (nI 0), .int (nI 0), .int (nI 0), .int (nI 0), .int (nI 0), .null, .int (nI 0), .int (nI 0), .int (nI 0), .null, .null, .null, .null, .int (nI 0), .int (nI 0), .int (nI 0), .int (nI 0), .int (nI 0), .int (nI 0), .null, .int (nI 0), .null, .int (nI 0), .int (nI 0), .int (nI 0), .int (nI 0), .int (nI 0), .null, .null, .long (0 : Int64)]) ++ (aI E q_1 30 (fun _ => 0) ++ tl)) rfl ?_
  refine q_aload_n F 0 dX11_init_12 rfl ?_
  refine q_bipush F dX11_init_13 (v := nI 48) (by decide) ?_
  refine q_newI F (N := 48) hac_int rfl (by decide) (Nat.le_of_ble_eq_true rfl) (Nat.le_of_ble_eq_true rfl) dX11_init_15 (fun q_2 => ?_)
  refine q_at (pc' := 17) (st' := [.ref q_2, .ref x]) (ws' := aI E q_2 48 (fun _ => 0) ++ (oV x 11 ([.ref q_1, .int (nI 0), .int (nI 0), .int (nI 0), .int (nI 0), .int (nI 0), .int (nI 0), .null, .int (nI 0), .int (nI 0), .int (nI 0), .null, .null, .null, .null, .int (nI 0), .int (nI 0), .int (nI 0), .int (nI 0), .int (nI 0), .int (nI 0), .null, .int (nI 0), .null, .int (nI 0), .int (nI 0), .int (nI 0), .int (nI 0), .int (nI 0), .null, .null, .long (0 : Int64)]) ++ (aI E q_1 30 (fun _ => 0) ++ tl))) (k' := 2) (n' := 78) rfl rfl rfl rfl rfl ?_
  refine q_perm pf1 ?_
  refine q_putF F (j := 7) 0 rfl rfl hi11 tyX11 tyX11_ok nmX11 (by decide) hf13_11 rfl rfl hnm_ rfl rfl rfl (Nat.le_of_ble_eq_true rfl) dX11_init_17 (ws' := oV x 11 ([.ref q_1, .int (nI 0), .int (nI 0), .int (nI 0), .int (nI 0), .int (nI 0), .int (nI 0), .ref q_2, .int (nI 0), .int (nI 0), .int (nI 0), .null, .null, .null, .null, .int (nI 0), .int (nI 0), .int (nI 0), .int (nI 0), .int (nI 0), .int (nI 0), .null, .int (nI 0), .null, .int (nI 0), .int (nI 0), .int (nI 0), .int (nI 0), .int (nI 0), .null, .null, .long (0 : Int64)]) ++ (aI E q_2 48 (fun _ => 0) ++ (aI E q_1 30 (fun _ => 0) ++ tl))) rfl ?_
  refine q_aload_n F 0 dX11_init_20 rfl ?_
  refine q_bipush F dX11_init_21 (v := nI 6) (by decide) ?_
  refine q_newI F (N := 6) hac_int rfl (by decide) (Nat.le_of_ble_eq_true rfl) (Nat.le_of_ble_eq_true rfl) dX11_init_23 (fun q_3 => ?_)
  refine q_at (pc' := 25) (st' := [.ref q_3, .ref x]) (ws' := aI E q_3 6 (fun _ => 0) ++ (oV x 11 ([.ref q_1, .int (nI 0), .int (nI 0), .int (nI 0), .int (nI 0), .int (nI 0), .int (nI 0), .ref q_2, .int (nI 0), .int (nI 0), .int (nI 0), .null, .null, .null, .null, .int (nI 0), .int (nI 0), .int (nI 0), .int (nI 0), .int (nI 0), .int (nI 0), .null, .int (nI 0), .null, .int (nI 0), .int (nI 0), .int (nI 0), .int (nI 0), .int (nI 0), .null, .null, .long (0 : Int64)]) ++ (aI E q_2 48 (fun _ => 0) ++ (aI E q_1 30 (fun _ => 0) ++ tl)))) (k' := 3) (n' := 84) rfl rfl rfl rfl rfl ?_
  refine q_perm pf1 ?_
  refine q_putF F (j := 11) 0 rfl rfl hi11 tyX11 tyX11_ok nmX11 (by decide) hf16_11 rfl rfl hnm_ rfl rfl rfl (Nat.le_of_ble_eq_true rfl) dX11_init_25 (ws' := oV x 11 ([.ref q_1, .int (nI 0), .int (nI 0), .int (nI 0), .int (nI 0), .int (nI 0), .int (nI 0), .ref q_2, .int (nI 0), .int (nI 0), .int (nI 0), .ref q_3, .null, .null, .null, .int (nI 0), .int (nI 0), .int (nI 0), .int (nI 0), .int (nI 0), .int (nI 0), .null, .int (nI 0), .null, .int (nI 0), .int (nI 0), .int (nI 0), .int (nI 0), .int (nI 0), .null, .null, .long (0 : Int64)]) ++ (aI E q_3 6 (fun _ => 0) ++ (aI E q_2 48 (fun _ => 0) ++ (aI E q_1 30 (fun _ => 0) ++ tl)))) rfl ?_
  refine q_aload_n F 0 dX11_init_28 rfl ?_
  refine q_bipush F dX11_init_29 (v := nI 6) (by decide) ?_
  refine q_newI F (N := 6) hac_int rfl (by decide) (Nat.le_of_ble_eq_true rfl) (Nat.le_of_ble_eq_true rfl) dX11_init_31 (fun q_4 => ?_)
  refine q_at (pc' := 33) (st' := [.ref q_4, .ref x]) (ws' := aI E q_4 6 (fun _ => 0) ++ (oV x 11 ([.ref q_1, .int (nI 0), .int (nI 0), .int (nI 0), .int (nI 0), .int (nI 0), .int (nI 0), .ref q_2, .int (nI 0), .int (nI 0), .int (nI 0), .ref q_3, .null, .null, .null, .int (nI 0), .int (nI 0), .int (nI 0), .int (nI 0), .int (nI 0), .int (nI 0), .null, .int (nI 0), .null, .int (nI 0), .int (nI 0), .int (nI 0), .int (nI 0), .int (nI 0), .null, .null, .long (0 : Int64)]) ++ (aI E q_3 6 (fun _ => 0) ++ (aI E q_2 48 (fun _ => 0) ++ (aI E q_1 30 (fun _ => 0) ++ tl))))) (k' := 4) (n' := 90) rfl rfl rfl rfl rfl ?_
  refine q_perm pf1 ?_
  refine q_putF F (j := 12) 0 rfl rfl hi11 tyX11 tyX11_ok nmX11 (by decide) hf19_11 rfl rfl hnm_ rfl rfl rfl (Nat.le_of_ble_eq_true rfl) dX11_init_33 (ws' := oV x 11 ([.ref q_1, .int (nI 0), .int (nI 0), .int (nI 0), .int (nI 0), .int (nI 0), .int (nI 0), .ref q_2, .int (nI 0), .int (nI 0), .int (nI 0), .ref q_3, .ref q_4, .null, .null, .int (nI 0), .int (nI 0), .int (nI 0), .int (nI 0), .int (nI 0), .int (nI 0), .null, .int (nI 0), .null, .int (nI 0), .int (nI 0), .int (nI 0), .int (nI 0), .int (nI 0), .null, .null, .long (0 : Int64)]) ++ (aI E q_4 6 (fun _ => 0) ++ (aI E q_3 6 (fun _ => 0) ++ (aI E q_2 48 (fun _ => 0) ++ (aI E q_1 30 (fun _ => 0) ++ tl))))) rfl ?_
  refine q_aload_n F 0 dX11_init_36 rfl ?_
  refine q_bipush F dX11_init_37 (v := nI 6) (by decide) ?_
  refine q_newI F (N := 6) hac_int rfl (by decide) (Nat.le_of_ble_eq_true rfl) (Nat.le_of_ble_eq_true rfl) dX11_init_39 (fun q_5 => ?_)
  refine q_at (pc' := 41) (st' := [.ref q_5, .ref x]) (ws' := aI E q_5 6 (fun _ => 0) ++ (oV x 11 ([.ref q_1, .int (nI 0), .int (nI 0), .int (nI 0), .int (nI 0), .int (nI 0), .int (nI 0), .ref q_2, .int (nI 0), .int (nI 0), .int (nI 0), .ref q_3, .ref q_4, .null, .null, .int (nI 0), .int (nI 0), .int (nI 0), .int (nI 0), .int (nI 0), .int (nI 0), .null, .int (nI 0), .null, .int (nI 0), .int (nI 0), .int (nI 0), .int (nI 0), .int (nI 0), .null, .null, .long (0 : Int64)]) ++ (aI E q_4 6 (fun _ => 0) ++ (aI E q_3 6 (fun _ => 0) ++ (aI E q_2 48 (fun _ => 0) ++ (aI E q_1 30 (fun _ => 0) ++ tl)))))) (k' := 5) (n' := 96) rfl rfl rfl rfl rfl ?_
  refine q_perm pf1 ?_
  refine q_putF F (j := 13) 0 rfl rfl hi11 tyX11 tyX11_ok nmX11 (by decide) hf22_11 rfl rfl hnm_ rfl rfl rfl (Nat.le_of_ble_eq_true rfl) dX11_init_41 (ws' := oV x 11 ([.ref q_1, .int (nI 0), .int (nI 0), .int (nI 0), .int (nI 0), .int (nI 0), .int (nI 0), .ref q_2, .int (nI 0), .int (nI 0), .int (nI 0), .ref q_3, .ref q_4, .ref q_5, .null, .int (nI 0), .int (nI 0), .int (nI 0), .int (nI 0), .int (nI 0), .int (nI 0), .null, .int (nI 0), .null, .int (nI 0), .int (nI 0), .int (nI 0), .int (nI 0), .int (nI 0), .null, .null, .long (0 : Int64)]) ++ (aI E q_5 6 (fun _ => 0) ++ (aI E q_4 6 (fun _ => 0) ++ (aI E q_3 6 (fun _ => 0) ++ (aI E q_2 48 (fun _ => 0) ++ (aI E q_1 30 (fun _ => 0) ++ tl)))))) rfl ?_
  refine q_aload_n F 0 dX11_init_44 rfl ?_
  refine q_bipush F dX11_init_45 (v := nI 6) (by decide) ?_
  refine q_newI F (N := 6) hac_int rfl (by decide) (Nat.le_of_ble_eq_true rfl) (Nat.le_of_ble_eq_true rfl) dX11_init_47 (fun q_6 => ?_)
  refine q_at (pc' := 49) (st' := [.ref q_6, .ref x]) (ws' := aI E q_6 6 (fun _ => 0) ++ (oV x 11 ([.ref q_1, .int (nI 0), .int (nI 0), .int (nI 0), .int (nI 0), .int (nI 0), .int (nI 0), .ref q_2, .int (nI 0), .int (nI 0), .int (nI 0), .ref q_3, .ref q_4, .ref q_5, .null, .int (nI 0), .int (nI 0), .int (nI 0), .int (nI 0), .int (nI 0), .int (nI 0), .null, .int (nI 0), .null, .int (nI 0), .int (nI 0), .int (nI 0), .int (nI 0), .int (nI 0), .null, .null, .long (0 : Int64)]) ++ (aI E q_5 6 (fun _ => 0) ++ (aI E q_4 6 (fun _ => 0) ++ (aI E q_3 6 (fun _ => 0) ++ (aI E q_2 48 (fun _ => 0) ++ (aI E q_1 30 (fun _ => 0) ++ tl))))))) (k' := 6) (n' := 102) rfl rfl rfl rfl rfl ?_
  refine q_perm pf1 ?_
  refine q_putF F (j := 14) 0 rfl rfl hi11 tyX11 tyX11_ok nmX11 (by decide) hf25_11 rfl rfl hnm_ rfl rfl rfl (Nat.le_of_ble_eq_true rfl) dX11_init_49 (ws' := oV x 11 ([.ref q_1, .int (nI 0), .int (nI 0), .int (nI 0), .int (nI 0), .int (nI 0), .int (nI 0), .ref q_2, .int (nI 0), .int (nI 0), .int (nI 0), .ref q_3, .ref q_4, .ref q_5, .ref q_6, .int (nI 0), .int (nI 0), .int (nI 0), .int (nI 0), .int (nI 0), .int (nI 0), .null, .int (nI 0), .null, .int (nI 0), .int (nI 0), .int (nI 0), .int (nI 0), .int (nI 0), .null, .null, .long (0 : Int64)]) ++ (aI E q_6 6 (fun _ => 0) ++ (aI E q_5 6 (fun _ => 0) ++ (aI E q_4 6 (fun _ => 0) ++ (aI E q_3 6 (fun _ => 0) ++ (aI E q_2 48 (fun _ => 0) ++ (aI E q_1 30 (fun _ => 0) ++ tl))))))) rfl ?_
  refine q_aload_n F 0 dX11_init_52 rfl ?_
  refine q_bipush F dX11_init_53 (v := nI 18) (by decide) ?_
  refine q_newI F (N := 18) hac_int rfl (by decide) (Nat.le_of_ble_eq_true rfl) (Nat.le_of_ble_eq_true rfl) dX11_init_55 (fun q_7 => ?_)
  refine q_at (pc' := 57) (st' := [.ref q_7, .ref x]) (ws' := aI E q_7 18 (fun _ => 0) ++ (oV x 11 ([.ref q_1, .int (nI 0), .int (nI 0), .int (nI 0), .int (nI 0), .int (nI 0), .int (nI 0), .ref q_2, .int (nI 0), .int (nI 0), .int (nI 0), .ref q_3, .ref q_4, .ref q_5, .ref q_6, .int (nI 0), .int (nI 0), .int (nI 0), .int (nI 0), .int (nI 0), .int (nI 0), .null, .int (nI 0), .null, .int (nI 0), .int (nI 0), .int (nI 0), .int (nI 0), .int (nI 0), .null, .null, .long (0 : Int64)]) ++ (aI E q_6 6 (fun _ => 0) ++ (aI E q_5 6 (fun _ => 0) ++ (aI E q_4 6 (fun _ => 0) ++ (aI E q_3 6 (fun _ => 0) ++ (aI E q_2 48 (fun _ => 0) ++ (aI E q_1 30 (fun _ => 0) ++ tl)))))))) (k' := 7) (n' := 120) rfl rfl rfl rfl rfl ?_
  refine q_perm pf1 ?_
  refine q_putF F (j := 21) 0 rfl rfl hi11 tyX11 tyX11_ok nmX11 (by decide) hf28_11 rfl rfl hnm_ rfl rfl rfl (Nat.le_of_ble_eq_true rfl) dX11_init_57 (ws' := oV x 11 ([.ref q_1, .int (nI 0), .int (nI 0), .int (nI 0), .int (nI 0), .int (nI 0), .int (nI 0), .ref q_2, .int (nI 0), .int (nI 0), .int (nI 0), .ref q_3, .ref q_4, .ref q_5, .ref q_6, .int (nI 0), .int (nI 0), .int (nI 0), .int (nI 0), .int (nI 0), .int (nI 0), .ref q_7, .int (nI 0), .null, .int (nI 0), .int (nI 0), .int (nI 0), .int (nI 0), .int (nI 0), .null, .null, .long (0 : Int64)]) ++ (aI E q_7 18 (fun _ => 0) ++ (aI E q_6 6 (fun _ => 0) ++ (aI E q_5 6 (fun _ => 0) ++ (aI E q_4 6 (fun _ => 0) ++ (aI E q_3 6 (fun _ => 0) ++ (aI E q_2 48 (fun _ => 0) ++ (aI E q_1 30 (fun _ => 0) ++ tl)))))))) rfl ?_
  refine q_aload_n F 0 dX11_init_60 rfl ?_
  refine q_bipush F dX11_init_61 (v := nI 48) (by decide) ?_
  refine q_newI F (N := 48) hac_int rfl (by decide) (Nat.le_of_ble_eq_true rfl) (Nat.le_of_ble_eq_true rfl) dX11_init_63 (fun q_8 => ?_)
  refine q_at (pc' := 65) (st' := [.ref q_8, .ref x]) (ws' := aI E q_8 48 (fun _ => 0) ++ (oV x 11 ([.ref q_1, .int (nI 0), .int (nI 0), .int (nI 0), .int (nI 0), .int (nI 0), .int (nI 0), .ref q_2, .int (nI 0), .int (nI 0), .int (nI 0), .ref q_3, .ref q_4, .ref q_5, .ref q_6, .int (nI 0), .int (nI 0), .int (nI 0), .int (nI 0), .int (nI 0), .int (nI 0), .ref q_7, .int (nI 0), .null, .int (nI 0), .int (nI 0), .int (nI 0), .int (nI 0), .int (nI 0), .null, .null, .long (0 : Int64)]) ++ (aI E q_7 18 (fun _ => 0) ++ (aI E q_6 6 (fun _ => 0) ++ (aI E q_5 6 (fun _ => 0) ++ (aI E q_4 6 (fun _ => 0) ++ (aI E q_3 6 (fun _ => 0) ++ (aI E q_2 48 (fun _ => 0) ++ (aI E q_1 30 (fun _ => 0) ++ tl))))))))) (k' := 8) (n' := 168) rfl rfl rfl rfl rfl ?_
  refine q_perm pf1 ?_
  refine q_putF F (j := 23) 0 rfl rfl hi11 tyX11 tyX11_ok nmX11 (by decide) hf31_11 rfl rfl hnm_ rfl rfl rfl (Nat.le_of_ble_eq_true rfl) dX11_init_65 (ws' := oV x 11 ([.ref q_1, .int (nI 0), .int (nI 0), .int (nI 0), .int (nI 0), .int (nI 0), .int (nI 0), .ref q_2, .int (nI 0), .int (nI 0), .int (nI 0), .ref q_3, .ref q_4, .ref q_5, .ref q_6, .int (nI 0), .int (nI 0), .int (nI 0), .int (nI 0), .int (nI 0), .int (nI 0), .ref q_7, .int (nI 0), .ref q_8, .int (nI 0), .int (nI 0), .int (nI 0), .int (nI 0), .int (nI 0), .null, .null, .long (0 : Int64)]) ++ (aI E q_8 48 (fun _ => 0) ++ (aI E q_7 18 (fun _ => 0) ++ (aI E q_6 6 (fun _ => 0) ++ (aI E q_5 6 (fun _ => 0) ++ (aI E q_4 6 (fun _ => 0) ++ (aI E q_3 6 (fun _ => 0) ++ (aI E q_2 48 (fun _ => 0) ++ (aI E q_1 30 (fun _ => 0) ++ tl))))))))) rfl ?_
  refine q_aload_n F 0 dX11_init_68 rfl ?_
  refine q_bipush F dX11_init_69 (v := nI 48) (by decide) ?_
  refine q_newI F (N := 48) hac_int rfl (by decide) (Nat.le_of_ble_eq_true rfl) (Nat.le_of_ble_eq_true rfl) dX11_init_71 (fun q_9 => ?_)
  refine q_at (pc' := 73) (st' := [.ref q_9, .ref x]) (ws' := aI E q_9 48 (fun _ => 0) ++ (oV x 11 ([.ref q_1, .int (nI 0), .int (nI 0), .int (nI 0), .int (nI 0), .int (nI 0), .int (nI 0), .ref q_2, .int (nI 0), .int (nI 0), .int (nI 0), .ref q_3, .ref q_4, .ref q_5, .ref q_6, .int (nI 0), .int (nI 0), .int (nI 0), .int (nI 0), .int (nI 0), .int (nI 0), .ref q_7, .int (nI 0), .ref q_8, .int (nI 0), .int (nI 0), .int (nI 0), .int (nI 0), .int (nI 0), .null, .null, .long (0 : Int64)]) ++ (aI E q_8 48 (fun _ => 0) ++ (aI E q_7 18 (fun _ => 0) ++ (aI E q_6 6 (fun _ => 0) ++ (aI E q_5 6 (fun _ => 0) ++ (aI E q_4 6 (fun _ => 0) ++ (aI E q_3 6 (fun _ => 0) ++ (aI E q_2 48 (fun _ => 0) ++ (aI E q_1 30 (fun _ => 0) ++ tl)))))))))) (k' := 9) (n' := 216) rfl rfl rfl rfl rfl ?_
  refine q_perm pf1 ?_
  refine q_putF F (j := 29) 0 rfl rfl hi11 tyX11 tyX11_ok nmX11 (by decide) hf34_11 rfl rfl hnm_ rfl rfl rfl (Nat.le_of_ble_eq_true rfl) dX11_init_73 (ws' := oV x 11 ([.ref q_1, .int (nI 0), .int (nI 0), .int (nI 0), .int (nI 0), .int (nI 0), .int (nI 0), .ref q_2, .int (nI 0), .int (nI 0), .int (nI 0), .ref q_3, .ref q_4, .ref q_5, .ref q_6, .int (nI 0), .int (nI 0), .int (nI 0), .int (nI 0), .int (nI 0), .int (nI 0), .ref q_7, .int (nI 0), .ref q_8, .int (nI 0), .int (nI 0), .int (nI 0), .int (nI 0), .int (nI 0), .ref q_9, .null, .long (0 : Int64)]) ++ (aI E q_9 48 (fun _ => 0) ++ (aI E q_8 48 (fun _ => 0) ++ (aI E q_7 18 (fun _ => 0) ++ (aI E q_6 6 (fun _ => 0) ++ (aI E q_5 6 (fun _ => 0) ++ (aI E q_4 6 (fun _ => 0) ++ (aI E q_3 6 (fun _ => 0) ++ (aI E q_2 48 (fun _ => 0) ++ (aI E q_1 30 (fun _ => 0) ++ tl)))))))))) rfl ?_
  refine q_aload_n F 0 dX11_init_76 rfl ?_
  refine q_bipush F dX11_init_77 (v := nI 18) (by decide) ?_
  refine q_newI F (N := 18) hac_int rfl (by decide) (Nat.le_of_ble_eq_true rfl) (Nat.le_of_ble_eq_true rfl) dX11_init_79 (fun q_10 => ?_)
  refine q_at (pc' := 81) (st' := [.ref q_10, .ref x]) (ws' := aI E q_10 18 (fun _ => 0) ++ (oV x 11 ([.ref q_1, .int (nI 0), .int (nI 0), .int (nI 0), .int (nI 0), .int (nI 0), .int (nI 0), .ref q_2, .int (nI 0), .int (nI 0), .int (nI 0), .ref q_3, .ref q_4, .ref q_5, .ref q_6, .int (nI 0), .int (nI 0), .int (nI 0), .int (nI 0), .int (nI 0), .int (nI 0), .ref q_7, .int (nI 0), .ref q_8, .int (nI 0), .int (nI 0), .int (nI 0), .int (nI 0), .int (nI 0), .ref q_9, .null, .long (0 : Int64)]) ++ (aI E q_9 48 (fun _ => 0) ++ (aI E q_8 48 (fun _ => 0) ++ (aI E q_7 18 (fun _ => 0) ++ (aI E q_6 6 (fun _ => 0) ++ (aI E q_5 6 (fun _ => 0) ++ (aI E q_4 6 (fun _ => 0) ++ (aI E q_3 6 (fun _ => 0) ++ (aI E q_2 48 (fun _ => 0) ++ (aI E q_1 30 (fun _ => 0) ++ tl))))))))))) (k' := 10) (n' := 234) rfl rfl rfl rfl rfl ?_
  refine q_perm pf1 ?_
  refine q_putF F (j := 30) 0 rfl rfl hi11 tyX11 tyX11_ok nmX11 (by decide) hf37_11 rfl rfl hnm_ rfl rfl rfl (Nat.le_of_ble_eq_true rfl) dX11_init_81 (ws' := oV x 11 ([.ref q_1, .int (nI 0), .int (nI 0), .int (nI 0), .int (nI 0), .int (nI 0), .int (nI 0), .ref q_2, .int (nI 0), .int (nI 0), .int (nI 0), .ref q_3, .ref q_4, .ref q_5, .ref q_6, .int (nI 0), .int (nI 0), .int (nI 0), .int (nI 0), .int (nI 0), .int (nI 0), .ref q_7, .int (nI 0), .ref q_8, .int (nI 0), .int (nI 0), .int (nI 0), .int (nI 0), .int (nI 0), .ref q_9, .ref q_10, .long (0 : Int64)]) ++ (aI E q_10 18 (fun _ => 0) ++ (aI E q_9 48 (fun _ => 0) ++ (aI E q_8 48 (fun _ => 0) ++ (aI E q_7 18 (fun _ => 0) ++ (aI E q_6 6 (fun _ => 0) ++ (aI E q_5 6 (fun _ => 0) ++ (aI E q_4 6 (fun _ => 0) ++ (aI E q_3 6 (fun _ => 0) ++ (aI E q_2 48 (fun _ => 0) ++ (aI E q_1 30 (fun _ => 0) ++ tl))))))))))) rfl ?_
  refine q_aload_n F 0 dX11_init_84 rfl ?_
  refine q_iconst F dX11_init_85 (v := (-1)) (by decide) ?_
  refine q_put F (j := 24) 0 rfl rfl hi11 tyX11 tyX11_ok nmX11 (by decide) hf40_11 rfl rfl rfl rfl (Nat.le_of_ble_eq_true rfl) dX11_init_86 (ws' := oV x 11 ([.ref q_1, .int (nI 0), .int (nI 0), .int (nI 0), .int (nI 0), .int (nI 0), .int (nI 0), .ref q_2, .int (nI 0), .int (nI 0), .int (nI 0), .ref q_3, .ref q_4, .ref q_5, .ref q_6, .int (nI 0), .int (nI 0), .int (nI 0), .int (nI 0), .int (nI 0), .int (nI 0), .ref q_7, .int (nI 0), .ref q_8, .int (-1), .int (nI 0), .int (nI 0), .int (nI 0), .int (nI 0), .ref q_9, .ref q_10, .long (0 : Int64)]) ++ (aI E q_10 18 (fun _ => 0) ++ (aI E q_9 48 (fun _ => 0) ++ (aI E q_8 48 (fun _ => 0) ++ (aI E q_7 18 (fun _ => 0) ++ (aI E q_6 6 (fun _ => 0) ++ (aI E q_5 6 (fun _ => 0) ++ (aI E q_4 6 (fun _ => 0) ++ (aI E q_3 6 (fun _ => 0) ++ (aI E q_2 48 (fun _ => 0) ++ (aI E q_1 30 (fun _ => 0) ++ tl))))))))))) rfl ?_
  obtain ⟨a, rfl, rfl, rfl, rfl, rfl, rfl, rfl, rfl, rfl, rfl, rfl⟩ : ∃ a : Nat → Nat, a 32 = x ∧ a 0 = q_1 ∧ a 7 = q_2 ∧ a 11 = q_3 ∧ a 12 = q_4 ∧ a 13 = q_5 ∧ a 14 = q_6 ∧ a 21 = q_7 ∧ a 23 = q_8 ∧ a 29 = q_9 ∧ a 30 = q_10 := ⟨fun i => match i with | 32 => x | 0 => q_1 | 7 => q_2 | 11 => q_3 | 12 => q_4 | 13 => q_5 | 14 => q_6 | 21 => q_7 | 23 => q_8 | 29 => q_9 | 30 => q_10 | _ => 0, rfl, rfl, rfl, rfl, rfl, rfl, rfl, rfl, rfl, rfl, rfl⟩
  refine q_perm pf1 ?_
  refine q_perm pf2 ?_
  refine q_perm pf3 ?_
  refine q_perm pf4 ?_
  refine q_perm pf5 ?_
  refine q_perm pf6 ?_
  refine q_perm pf7 ?_
  refine q_perm pf8 ?_
  refine q_perm pf9 ?_
  refine q_perm pf10 ?_
  refine q_perm pf10 ?_
  refine q_at (pc' := 89) (st' := []) (ws' := mC E a (upd zF 24 (-1)) (0 : Int64) zB ++ tl) (k' := 10) (n' := 234) rfl rfl rfl rfl rfl ?_
  exact q_vret F hr_ dX11_init_89 (hp_ _ _ ⟨rfl, a, rfl, rfl⟩)
