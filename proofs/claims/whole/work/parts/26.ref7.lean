/-! the reference's public methods, second part: what stays, what is scratch -/
def perF (k : Nat) : Bool := [1, 2, 3, 4, 5, 6, 19, 20, 24, 25, 26, 27, 28].contains k
def perA (k : Nat) : Bool := [0, 7, 21, 29, 30].contains k
def kpF (f f' : Nat → Int32) : Prop := ∀ k, perF k = true → f' k = f k
def kpA (A A' : Nat → Nat → Int32) : Prop := ∀ k, perA k = true → A' k = A k
theorem kpF_r (f : Nat → Int32) : kpF f f := fun _ _ => rfl
theorem kpA_r (A : Nat → Nat → Int32) : kpA A A := fun _ _ => rfl
theorem kpF_u {f g : Nat → Int32} {i : Nat} {v : Int32} (h : perF i = false) (hk : kpF f g) : kpF f (upd g i v) := fun k hp => by
  have e : k ≠ i := fun z => by rw [z, h] at hp; exact absurd hp (by decide)
  rw [pk_un e]
  exact hk k hp
theorem kpA_u {A B : Nat → Nat → Int32} {i : Nat} {v : Nat → Int32} (h : perA i = false) (hk : kpA A B) : kpA A (va_up B i v) := fun k hp => by
  have e : k ≠ i := fun z => by rw [z, h] at hp; exact absurd hp (by decide)
  rw [va_up_ne _ _ e]
  exact hk k hp
/-- an answer; only scratch has changed -/
def scP (E : gEnv) (a : Nat → Nat) (f : Nat → Int32) (hh : Int64) (A : Nat → Nat → Int32) (tl : va_W) (r : Int32) (v : Option Value) (w : va_W) : Prop := v = some (.int r) ∧ ∃ (f' : Nat → Int32) (A' : Nat → Nat → Int32), w = mC E a f' hh A' ++ tl ∧ kpF f f' ∧ kpA A A'
def nexM (T : gTown) (f : gF) (A : gA) (x : Int32) : Int32 := if inI x (nI 0) (nI 2) then (if tN T = 0 then (-103) else nxS T x.toNatClampNeg (sF (A 7)) (shB T (A 7)) (f 3)) else (-102)
def byG (T : gTown) (f : gF) (A : gA) (lw : Nat) : gGo := goR T lw (sF (A 7)) 6 (shB T (A 7), f 3, f 5, f 4, nI 0, fun _ => (-1))
def byV (g : gGo) (y : Int32) : Int32 := if y = 0 then g.2.2.2.2.1 else if y = nI 1 then g.2.2.1 else g.2.1
def byM (T : gTown) (f : gF) (A : gA) (x y : Int32) : Int32 := if inI x (nI 0) (nI 2) && inI y (nI 0) (nI 2) then (if tN T = 0 then (-103) else byV (byG T f A x.toNatClampNeg) y) else (-102)
/-- a draw: the next seed -/
def sdN (s : Int32) : Int32 := ((1103515245 : Int64) * s.toInt64 + (12345 : Int64) &&& (2147483647 : Int64)).toInt32
theorem sdN_nat (s : Int32) : ∃ n, n < 2 ^ 31 ∧ sdN s = nI n := by
  obtain ⟨m, hm, e⟩ : ∃ m : Nat, m < 2 ^ 31 ∧ ((1103515245 : Int64) * s.toInt64 + (12345 : Int64) &&& (2147483647 : Int64)) = lN m := by
    generalize (1103515245 : Int64) * s.toInt64 + (12345 : Int64) = z
    refine ⟨z.toBitVec.toNat % 2 ^ 31, Nat.mod_lt _ (by decide), ?_⟩
    apply Int64.toBitVec_inj.mp
    apply BitVec.eq_of_toNat_eq
    show (z.toBitVec &&& (2147483647 : Int64).toBitVec).toNat = (BitVec.ofNat 64 (z.toBitVec.toNat % 2 ^ 31)).toNat
    rw [BitVec.toNat_and, show (2147483647 : Int64).toBitVec.toNat = 2 ^ 31 - 1 by decide, Nat.and_two_pow_sub_one_eq_mod, BitVec.toNat_ofNat]
    exact (Nat.mod_eq_of_lt (Nat.lt_of_lt_of_le (Nat.mod_lt _ (by decide)) (by decide))).symm
  exact ⟨m, hm, by unfold sdN; rw [e]; exact lN_i m⟩
def drN (s : Int32) (k : Nat) : Nat := (sdN s).toNatClampNeg / 65536 % k
/-- sums over the houses -/
def smM (r : Nat → Int32) (w : Nat) : Nat → Int32
  | 0 => nI 0
  | i + 1 => smM r w i + (if w = 4 then bI (outB (sF r) i) else r (8 * i + w))
set_option maxHeartbeats 4000000 in
set_option maxRecDepth 100000 in
theorem c_X11_next (l : Launch) (E : gEnv) (a : Nat → Nat) (f : Nat → Int32) (hh : Int64) (A : Nat → Nat → Int32) (tl : va_W) (T : gTown) (hm : f 2 = nI (tN T)) (hn : tN T ≤ 6) (hR : rowsOf (A 7) T) (hO : okT T) (hp3 : okP (f 3)) (x : Int32) : Cn l E yX11_next wsX11_next (rmL 3 0 0) [.ref (a 32), .int x] (mC E a f hh A ++ tl) 0 0 (scP E a f hh A tl (nexM T f A x)) := by
  refine Cn.of (own := RX11) (cc := cX11_next) (maxL := 2) (ret := (some .int)) (lv := [(0, .ref (a 32)), (1, .int x)]) (by decide) rfl rfl (Nat.le_of_ble_eq_true rfl) rfl ?_
  intro p_ e_ s_ m_ args_ below_ meth_ c_ A_ P_ hp_ F hr_ hnm_
  have hk130 : Cond.constantLong RX11 130 (2) ∈ wsX11_next := by decide +kernel
  have hd_X11_in : yX11_in.cls ≠ "java/lang/invoke/MethodHandle" ∧ yX11_in.cls ≠ "java/lang/invoke/VarHandle" ∧ (parseMethodDescriptor yX11_in.desc).map (fun d => d.parameters.length) = some 3 := by decide +kernel
  have hd_X11_lacks : yX11_lacks.cls = RX11 ∧ yX11_lacks.cls ≠ "java/lang/invoke/MethodHandle" ∧ yX11_lacks.cls ≠ "java/lang/invoke/VarHandle" ∧ (parseMethodDescriptor yX11_lacks.desc).map (fun d => d.parameters.length) = some 0 := by decide +kernel
  have hd_X11_asItIs : yX11_asItIs.cls = RX11 ∧ yX11_asItIs.cls ≠ "java/lang/invoke/MethodHandle" ∧ yX11_asItIs.cls ≠ "java/lang/invoke/VarHandle" ∧ (parseMethodDescriptor yX11_asItIs.desc).map (fun d => d.parameters.length) = some 0 := by decide +kernel
  have hd_X11_shutBits : yX11_shutBits.cls = RX11 ∧ yX11_shutBits.cls ≠ "java/lang/invoke/MethodHandle" ∧ yX11_shutBits.cls ≠ "java/lang/invoke/VarHandle" ∧ (parseMethodDescriptor yX11_shutBits.desc).map (fun d => d.parameters.length) = some 0 := by decide +kernel
  have hd_X11_nextOf : yX11_nextOf.cls = RX11 ∧ yX11_nextOf.cls ≠ "java/lang/invoke/MethodHandle" ∧ yX11_nextOf.cls ≠ "java/lang/invoke/VarHandle" ∧ (parseMethodDescriptor yX11_nextOf.desc).map (fun d => d.parameters.length) = some 2 := by decide +kernel
  refine q_iload_n F 1 dX11_next_0 rfl ?_
  refine q_i2l F dX11_next_1 ?_
  refine q_lconst F dX11_next_2 (v := 0) (by decide) ?_
  refine q_ldc2 F hk130 dX11_next_3 ?_
  refine q_callS F (As := [.long x.toInt64, .long (0 : Int64), .long (2 : Int64)]) (rest := []) (c_X11_in l E (mC E a f hh A ++ tl) x.toInt64 (0 : Int64) (2 : Int64)) (List.Perm.refl _) gX11_next_X11_in rfl rfl rfl hd_X11_in ⟨by decide, by decide⟩ rfl (Nat.le_of_ble_eq_true rfl) dX11_next_6 ⟨Nat.le_of_ble_eq_true rfl, Nat.le_of_ble_eq_true rfl⟩ (fun v_ w_ hvw => ?_)
  rw [hvw.1, hvw.2]
  clear hvw
  refine q_at (pc' := 9) (st' := [.int (bI (inL x.toInt64 (0 : Int64) (2 : Int64)))]) (ws' := mC E a f hh A ++ tl) (k' := 0) (n' := 0) rfl rfl rfl rfl rfl ?_
  refine q_toi (bI (inI x (nI 0) (nI 2))) (congrArg bI (inL_I (by decide) (by decide))) ?_
  refine q_if_ne F (tgt := 15) dX11_next_9 (by decide) (fun h_9 => ?_) (fun h_9 => ?_)
  · skip
    have hb_9 := bI_1 h_9
    obtain ⟨lw, -, hl2, rfl⟩ := inI_nat (by decide) (by decide) hb_9
    have hl3 : lw < 3 := by omega
    have hcl : (nI lw).toNatClampNeg = lw := nI_clamp (by omega)
    refine q_aload_n F 0 dX11_next_15 rfl ?_
    refine q_callV F (ci := 11) (As := []) (rest := []) (List.mem_append_left _ (List.mem_of_getElem? (i := 0) rfl)) rfl (c_X11_lacks l E a f hh A tl T hm hn ) (List.Perm.refl _) gX11_next_X11_lacks rfl rfl rfl hd_X11_lacks ⟨by decide, by decide⟩ rfl (Nat.le_of_ble_eq_true rfl) dX11_next_16 ⟨Nat.le_of_ble_eq_true rfl, Nat.le_of_ble_eq_true rfl⟩ (fun v_ w_ hvw => ?_)
    rw [hvw.1, hvw.2]
    clear hvw
    refine q_at (pc' := 19) (st' := [.int (bI (decide (tN T = 0)))]) (ws' := mC E a f hh A ++ tl) (k' := 0) (n' := 0) rfl rfl rfl rfl rfl ?_
    refine q_if_eq F (tgt := 25) dX11_next_19 (by decide) (fun h_19 => ?_) (fun h_19 => ?_)
    · skip
      have hb_19 := bI_0 h_19
      refine q_aload_n F 0 dX11_next_25 rfl ?_
      refine q_callV F (ci := 11) (As := []) (rest := []) (List.mem_append_left _ (List.mem_of_getElem? (i := 0) rfl)) rfl (c_X11_asItIs l E a f hh A tl ) (List.Perm.refl _) gX11_next_X11_asItIs rfl rfl rfl hd_X11_asItIs ⟨by decide, by decide⟩ rfl (Nat.le_of_ble_eq_true rfl) dX11_next_26 ⟨Nat.le_of_ble_eq_true rfl, Nat.le_of_ble_eq_true rfl⟩ (fun v_ w_ hvw => ?_)
      rw [hvw.1, hvw.2]
      clear hvw
      refine q_at (pc' := 29) (st' := []) (ws' := mC E a (upd (upd (upd f 8 (f 3)) 9 (f 5)) 10 (f 4)) hh A ++ tl) (k' := 0) (n' := 0) rfl rfl rfl rfl rfl ?_
      refine q_aload_n F 0 dX11_next_29 rfl ?_
      refine q_aload_n F 0 dX11_next_30 rfl ?_
      refine q_callV F (ci := 11) (As := []) (rest := [.ref (a 32)]) (List.mem_append_left _ (List.mem_of_getElem? (i := 0) rfl)) rfl (c_X11_shutBits l E a (upd (upd (upd f 8 (f 3)) 9 (f 5)) 10 (f 4)) hh A tl T hm hn ) (List.Perm.refl _) gX11_next_X11_shutBits rfl rfl rfl hd_X11_shutBits ⟨by decide, by decide⟩ rfl (Nat.le_of_ble_eq_true rfl) dX11_next_31 ⟨Nat.le_of_ble_eq_true rfl, Nat.le_of_ble_eq_true rfl⟩ (fun v_ w_ hvw => ?_)
      rw [hvw.1, hvw.2]
      clear hvw
      refine q_at (pc' := 34) (st' := [.int (wb (shB T (A 7)) 6), .ref (a 32)]) (ws' := mC E a (upd (upd (upd f 8 (f 3)) 9 (f 5)) 10 (f 4)) hh A ++ tl) (k' := 0) (n' := 0) rfl rfl rfl rfl rfl ?_
      refine q_iload_n F 1 dX11_next_34 rfl ?_
      refine q_callV F (ci := 11) (As := [.int (wb (shB T (A 7)) 6), .int (nI lw)]) (rest := []) (List.mem_append_left _ (List.mem_of_getElem? (i := 0) rfl)) rfl (c_X11_nextOf l E a (upd (upd (upd f 8 (f 3)) 9 (f 5)) 10 (f 4)) hh A tl T hm hn hR hO (wb (shB T (A 7)) 6) lw hl3 hp3) (List.Perm.refl _) gX11_next_X11_nextOf rfl rfl rfl hd_X11_nextOf ⟨by decide, by decide⟩ rfl (Nat.le_of_ble_eq_true rfl) dX11_next_35 ⟨Nat.le_of_ble_eq_true rfl, Nat.le_of_ble_eq_true rfl⟩ (fun v_ w_ hvw => ?_)
      rw [hvw.1, hvw.2]
      clear hvw
      refine q_at (pc' := 38) (st' := [.int ((nxR (myM T (wb (shB T (A 7)) 6)) (rkF T lw (sF (A 7)) (f 3)) (tN T)).1)]) (ws' := mC E a (upd (upd (upd f 8 (f 3)) 9 (f 5)) 10 (f 4)) hh A ++ tl) (k' := 0) (n' := 0) rfl rfl rfl rfl rfl ?_
      refine q_iret F hr_ dX11_next_38 (hp_ _ _ ⟨congrArg (fun z => some (Value.int z)) ?_, _, _, rfl, ?_, ?_⟩)
      · simp_all [nexM, nxS]
      · repeat (first | exact kpF_r _ | refine kpF_u (by decide) ?_)
      · repeat (first | exact kpA_r _ | refine kpA_u (by decide) ?_)
    · skip
      have hb_19 := bI_1 h_19
      refine q_bipush F dX11_next_22 (v := (-103)) (by decide) ?_
      refine q_iret F hr_ dX11_next_24 (hp_ _ _ ⟨congrArg (fun z => some (Value.int z)) ?_, _, _, rfl, ?_, ?_⟩)
      · simp_all [nexM, nxS]
      · repeat (first | exact kpF_r _ | refine kpF_u (by decide) ?_)
      · repeat (first | exact kpA_r _ | refine kpA_u (by decide) ?_)
  · skip
    have hb_9 := bI_0 h_9
    refine q_bipush F dX11_next_12 (v := (-102)) (by decide) ?_
    refine q_iret F hr_ dX11_next_14 (hp_ _ _ ⟨congrArg (fun z => some (Value.int z)) ?_, _, _, rfl, ?_, ?_⟩)
    · simp_all [nexM, nxS]
    · repeat (first | exact kpF_r _ | refine kpF_u (by decide) ?_)
    · repeat (first | exact kpA_r _ | refine kpA_u (by decide) ?_)

set_option maxHeartbeats 4000000 in
set_option maxRecDepth 100000 in
theorem c_X11_byOf (l : Launch) (E : gEnv) (a : Nat → Nat) (f : Nat → Int32) (hh : Int64) (A : Nat → Nat → Int32) (tl : va_W) (T : gTown) (hm : f 2 = nI (tN T)) (hn : tN T ≤ 6) (hR : rowsOf (A 7) T) (hO : okT T) (hp3 : okP (f 3)) (lw : Nat) (hl3 : lw < 3) (y : Int32) : Cn l E yX11_byOf wsX11_byOf (rmL 4 0 0) [.ref (a 32), .int (nI lw), .int y] (mC E a f hh A ++ tl) 0 0 (scP E a f hh A tl (byV (byG T f A lw) y)) := by
  refine Cn.of (own := RX11) (cc := cX11_byOf) (maxL := 4) (ret := (some .int)) (lv := [(0, .ref (a 32)), (1, .int (nI lw)), (2, .int y)]) (by decide) rfl rfl (Nat.le_of_ble_eq_true rfl) rfl ?_
  intro p_ e_ s_ m_ args_ below_ meth_ c_ A_ P_ hp_ F hr_ hnm_
  have hd_X11_asItIs : yX11_asItIs.cls = RX11 ∧ yX11_asItIs.cls ≠ "java/lang/invoke/MethodHandle" ∧ yX11_asItIs.cls ≠ "java/lang/invoke/VarHandle" ∧ (parseMethodDescriptor yX11_asItIs.desc).map (fun d => d.parameters.length) = some 0 := by decide +kernel
  have hd_X11_shutBits : yX11_shutBits.cls = RX11 ∧ yX11_shutBits.cls ≠ "java/lang/invoke/MethodHandle" ∧ yX11_shutBits.cls ≠ "java/lang/invoke/VarHandle" ∧ (parseMethodDescriptor yX11_shutBits.desc).map (fun d => d.parameters.length) = some 0 := by decide +kernel
  have hd_X11_goesBy : yX11_goesBy.cls = RX11 ∧ yX11_goesBy.cls ≠ "java/lang/invoke/MethodHandle" ∧ yX11_goesBy.cls ≠ "java/lang/invoke/VarHandle" ∧ (parseMethodDescriptor yX11_goesBy.desc).map (fun d => d.parameters.length) = some 2 := by decide +kernel
  have hf102_11 : Cond.fieldLink RX11 102 "KeyOnStreetModel" (TX11 8).2.1 (TX11 8).2.2.1 ∈ wsX11_byOf := by decide +kernel
  have hi11 : ∀ w ∈ u_ws RX11 TX11 32, w ∈ wsX11_byOf := by decide +kernel
  have hf105_11 : Cond.fieldLink RX11 105 "KeyOnStreetModel" (TX11 9).2.1 (TX11 9).2.2.1 ∈ wsX11_byOf := by decide +kernel
  refine q_aload_n F 0 dX11_byOf_0 rfl ?_
  refine q_callV F (ci := 11) (As := []) (rest := []) (List.mem_append_left _ (List.mem_of_getElem? (i := 0) rfl)) rfl (c_X11_asItIs l E a f hh A tl ) (List.Perm.refl _) gX11_byOf_X11_asItIs rfl rfl rfl hd_X11_asItIs ⟨by decide, by decide⟩ rfl (Nat.le_of_ble_eq_true rfl) dX11_byOf_1 ⟨Nat.le_of_ble_eq_true rfl, Nat.le_of_ble_eq_true rfl⟩ (fun v_ w_ hvw => ?_)
  rw [hvw.1, hvw.2]
  clear hvw
  refine q_at (pc' := 4) (st' := []) (ws' := mC E a (upd (upd (upd f 8 (f 3)) 9 (f 5)) 10 (f 4)) hh A ++ tl) (k' := 0) (n' := 0) rfl rfl rfl rfl rfl ?_
  refine q_aload_n F 0 dX11_byOf_4 rfl ?_
  refine q_aload_n F 0 dX11_byOf_5 rfl ?_
  refine q_callV F (ci := 11) (As := []) (rest := [.ref (a 32)]) (List.mem_append_left _ (List.mem_of_getElem? (i := 0) rfl)) rfl (c_X11_shutBits l E a (upd (upd (upd f 8 (f 3)) 9 (f 5)) 10 (f 4)) hh A tl T hm hn ) (List.Perm.refl _) gX11_byOf_X11_shutBits rfl rfl rfl hd_X11_shutBits ⟨by decide, by decide⟩ rfl (Nat.le_of_ble_eq_true rfl) dX11_byOf_6 ⟨Nat.le_of_ble_eq_true rfl, Nat.le_of_ble_eq_true rfl⟩ (fun v_ w_ hvw => ?_)
  rw [hvw.1, hvw.2]
  clear hvw
  refine q_at (pc' := 9) (st' := [.int (wb (shB T (A 7)) 6), .ref (a 32)]) (ws' := mC E a (upd (upd (upd f 8 (f 3)) 9 (f 5)) 10 (f 4)) hh A ++ tl) (k' := 0) (n' := 0) rfl rfl rfl rfl rfl ?_
  refine q_iload_n F 1 dX11_byOf_9 rfl ?_
  refine q_callV F (ci := 11) (As := [.int (wb (shB T (A 7)) 6), .int (nI lw)]) (rest := []) (List.mem_append_left _ (List.mem_of_getElem? (i := 0) rfl)) rfl (c_X11_goesBy l E a (upd (upd (upd f 8 (f 3)) 9 (f 5)) 10 (f 4)) hh A tl T hm hn hR hO (shB T (A 7)) shB_lt lw hl3 hp3) (List.Perm.refl _) gX11_byOf_X11_goesBy rfl rfl rfl hd_X11_goesBy ⟨by decide, by decide⟩ rfl (Nat.le_of_ble_eq_true rfl) dX11_byOf_10 ⟨Nat.le_of_ble_eq_true rfl, Nat.le_of_ble_eq_true rfl⟩ (fun v_ w_ hvw => ?_)
  rw [hvw.1, hvw.2]
  clear hvw
  refine q_at (pc' := 13) (st' := [.int ((goR T lw (sF (A 7)) 6 (shB T (A 7), f 3, f 5, f 4, nI 0, fun _ => (-1))).2.2.2.2.1)]) (ws' := mC E a (upd (upd (upd f 8 ((goR T lw (sF (A 7)) 6 (shB T (A 7), f 3, f 5, f 4, nI 0, fun _ => (-1))).2.1)) 9 ((goR T lw (sF (A 7)) 6 (shB T (A 7), f 3, f 5, f 4, nI 0, fun _ => (-1))).2.2.1)) 10 ((goR T lw (sF (A 7)) 6 (shB T (A 7), f 3, f 5, f 4, nI 0, fun _ => (-1))).2.2.2.1)) hh (va_up A 11 ((goR T lw (sF (A 7)) 6 (shB T (A 7), f 3, f 5, f 4, nI 0, fun _ => (-1))).2.2.2.2.2)) ++ tl) (k' := 0) (n' := 0) rfl rfl rfl rfl rfl ?_
  refine q_istore_n F (lv' := [(3, .int ((goR T lw (sF (A 7)) 6 (shB T (A 7), f 3, f 5, f 4, nI 0, fun _ => (-1))).2.2.2.2.1)), (0, .ref (a 32)), (1, .int (nI lw)), (2, .int y)]) dX11_byOf_13 (by decide) rfl ?_
  refine q_iload_n F 3 dX11_byOf_14 rfl ?_
  refine q_if_ne F (tgt := 22) dX11_byOf_15 (by decide) (fun h_15 => ?_) (fun h_15 => ?_)
  · skip
    refine q_iload_n F 3 dX11_byOf_22 rfl ?_
    refine q_iconst F dX11_byOf_23 (v := nI 1) (by decide) ?_
    refine q_icmp_ne F (tgt := 34) dX11_byOf_24 (by decide) (fun h_24 => ?_) (fun h_24 => ?_)
    · skip
      refine q_aload_n F 1 dX11_byOf_34 rfl ?_
      refine q_get F (ci := 11) (j := 8) (v := .int ((goR T lw (sF (A 7)) 6 (shB T (A 7), f 3, f 5, f 4, nI 0, fun _ => (-1))).2.1)) (List.mem_append_left _ (List.mem_of_getElem? (i := 0) rfl)) rfl hi11 (by decide) hf102_11 rfl rfl dX11_byOf_35 ?_
      refine q_iret F hr_ dX11_byOf_38 (hp_ _ _ ⟨congrArg (fun z => some (Value.int z)) ?_, _, _, rfl, ?_, ?_⟩)
      · rw [byV, if_neg h_15, if_neg h_24]; rfl
      · repeat (first | exact kpF_r _ | refine kpF_u (by decide) ?_)
      · repeat (first | exact kpA_r _ | refine kpA_u (by decide) ?_)
    · skip
      refine q_aload_n F 1 dX11_byOf_27 rfl ?_
      refine q_get F (ci := 11) (j := 9) (v := .int ((goR T lw (sF (A 7)) 6 (shB T (A 7), f 3, f 5, f 4, nI 0, fun _ => (-1))).2.2.1)) (List.mem_append_left _ (List.mem_of_getElem? (i := 0) rfl)) rfl hi11 (by decide) hf105_11 rfl rfl dX11_byOf_28 ?_
      refine q_goto F (tgt := 38) dX11_byOf_31 (by decide) ?_
      refine q_iret F hr_ dX11_byOf_38 (hp_ _ _ ⟨congrArg (fun z => some (Value.int z)) ?_, _, _, rfl, ?_, ?_⟩)
      · rw [byV, if_neg h_15, if_pos h_24]; rfl
      · repeat (first | exact kpF_r _ | refine kpF_u (by decide) ?_)
      · repeat (first | exact kpA_r _ | refine kpA_u (by decide) ?_)
  · skip
    refine q_iload_n F 0 dX11_byOf_18 rfl ?_
    refine q_goto F (tgt := 38) dX11_byOf_19 (by decide) ?_
    refine q_iret F hr_ dX11_byOf_38 (hp_ _ _ ⟨congrArg (fun z => some (Value.int z)) ?_, _, _, rfl, ?_, ?_⟩)
    · rw [byV, if_pos h_15]; rfl
    · repeat (first | exact kpF_r _ | refine kpF_u (by decide) ?_)
    · repeat (first | exact kpA_r _ | refine kpA_u (by decide) ?_)

set_option maxHeartbeats 4000000 in
set_option maxRecDepth 100000 in
theorem c_X11_by (l : Launch) (E : gEnv) (a : Nat → Nat) (f : Nat → Int32) (hh : Int64) (A : Nat → Nat → Int32) (tl : va_W) (T : gTown) (hm : f 2 = nI (tN T)) (hn : tN T ≤ 6) (hR : rowsOf (A 7) T) (hO : okT T) (hp3 : okP (f 3)) (x y : Int32) : Cn l E yX11_by wsX11_by (rmL 5 0 0) [.ref (a 32), .int x, .int y] (mC E a f hh A ++ tl) 0 0 (scP E a f hh A tl (byM T f A x y)) := by
  refine Cn.of (own := RX11) (cc := cX11_by) (maxL := 3) (ret := (some .int)) (lv := [(0, .ref (a 32)), (1, .int x), (2, .int y)]) (by decide) rfl rfl (Nat.le_of_ble_eq_true rfl) rfl ?_
  intro p_ e_ s_ m_ args_ below_ meth_ c_ A_ P_ hp_ F hr_ hnm_
  have hk130 : Cond.constantLong RX11 130 (2) ∈ wsX11_by := by decide +kernel
  have hd_X11_in : yX11_in.cls ≠ "java/lang/invoke/MethodHandle" ∧ yX11_in.cls ≠ "java/lang/invoke/VarHandle" ∧ (parseMethodDescriptor yX11_in.desc).map (fun d => d.parameters.length) = some 3 := by decide +kernel
  have hd_X11_lacks : yX11_lacks.cls = RX11 ∧ yX11_lacks.cls ≠ "java/lang/invoke/MethodHandle" ∧ yX11_lacks.cls ≠ "java/lang/invoke/VarHandle" ∧ (parseMethodDescriptor yX11_lacks.desc).map (fun d => d.parameters.length) = some 0 := by decide +kernel
  have hd_X11_byOf : yX11_byOf.cls = RX11 ∧ yX11_byOf.cls ≠ "java/lang/invoke/MethodHandle" ∧ yX11_byOf.cls ≠ "java/lang/invoke/VarHandle" ∧ (parseMethodDescriptor yX11_byOf.desc).map (fun d => d.parameters.length) = some 2 := by decide +kernel
  refine q_iload_n F 1 dX11_by_0 rfl ?_
  refine q_i2l F dX11_by_1 ?_
  refine q_lconst F dX11_by_2 (v := 0) (by decide) ?_
  refine q_ldc2 F hk130 dX11_by_3 ?_
  refine q_callS F (As := [.long x.toInt64, .long (0 : Int64), .long (2 : Int64)]) (rest := []) (c_X11_in l E (mC E a f hh A ++ tl) x.toInt64 (0 : Int64) (2 : Int64)) (List.Perm.refl _) gX11_by_X11_in rfl rfl rfl hd_X11_in ⟨by decide, by decide⟩ rfl (Nat.le_of_ble_eq_true rfl) dX11_by_6 ⟨Nat.le_of_ble_eq_true rfl, Nat.le_of_ble_eq_true rfl⟩ (fun v_ w_ hvw => ?_)
  rw [hvw.1, hvw.2]
  clear hvw
  refine q_at (pc' := 9) (st' := [.int (bI (inL x.toInt64 (0 : Int64) (2 : Int64)))]) (ws' := mC E a f hh A ++ tl) (k' := 0) (n' := 0) rfl rfl rfl rfl rfl ?_
  refine q_toi (bI (inI x (nI 0) (nI 2))) (congrArg bI (inL_I (by decide) (by decide))) ?_
  refine q_if_eq F (tgt := 24) dX11_by_9 (by decide) (fun h_9 => ?_) (fun h_9 => ?_)
  · skip
    have hb_9 := bI_0 h_9
    refine q_bipush F dX11_by_24 (v := (-102)) (by decide) ?_
    refine q_iret F hr_ dX11_by_26 (hp_ _ _ ⟨congrArg (fun z => some (Value.int z)) ?_, f, A, rfl, kpF_r f, kpA_r A⟩)
    · simp_all [byM]
  · skip
    have hb_9 := bI_1 h_9
    obtain ⟨lw, -, hl2, rfl⟩ := inI_nat (by decide) (by decide) hb_9
    have hl3 : lw < 3 := by omega
    have hcl : (nI lw).toNatClampNeg = lw := nI_clamp (by omega)
    refine q_iload_n F 2 dX11_by_12 rfl ?_
    refine q_i2l F dX11_by_13 ?_
    refine q_lconst F dX11_by_14 (v := 0) (by decide) ?_
    refine q_ldc2 F hk130 dX11_by_15 ?_
    refine q_callS F (As := [.long y.toInt64, .long (0 : Int64), .long (2 : Int64)]) (rest := []) (c_X11_in l E (mC E a f hh A ++ tl) y.toInt64 (0 : Int64) (2 : Int64)) (List.Perm.refl _) gX11_by_X11_in rfl rfl rfl hd_X11_in ⟨by decide, by decide⟩ rfl (Nat.le_of_ble_eq_true rfl) dX11_by_18 ⟨Nat.le_of_ble_eq_true rfl, Nat.le_of_ble_eq_true rfl⟩ (fun v_ w_ hvw => ?_)
    rw [hvw.1, hvw.2]
    clear hvw
    refine q_at (pc' := 21) (st' := [.int (bI (inL y.toInt64 (0 : Int64) (2 : Int64)))]) (ws' := mC E a f hh A ++ tl) (k' := 0) (n' := 0) rfl rfl rfl rfl rfl ?_
    refine q_toi (bI (inI y (nI 0) (nI 2))) (congrArg bI (inL_I (by decide) (by decide))) ?_
    refine q_if_ne F (tgt := 27) dX11_by_21 (by decide) (fun h_21 => ?_) (fun h_21 => ?_)
    · skip
      have hb_21 := bI_1 h_21
      refine q_aload_n F 0 dX11_by_27 rfl ?_
      refine q_callV F (ci := 11) (As := []) (rest := []) (List.mem_append_left _ (List.mem_of_getElem? (i := 0) rfl)) rfl (c_X11_lacks l E a f hh A tl T hm hn ) (List.Perm.refl _) gX11_by_X11_lacks rfl rfl rfl hd_X11_lacks ⟨by decide, by decide⟩ rfl (Nat.le_of_ble_eq_true rfl) dX11_by_28 ⟨Nat.le_of_ble_eq_true rfl, Nat.le_of_ble_eq_true rfl⟩ (fun v_ w_ hvw => ?_)
      rw [hvw.1, hvw.2]
      clear hvw
      refine q_at (pc' := 31) (st' := [.int (bI (decide (tN T = 0)))]) (ws' := mC E a f hh A ++ tl) (k' := 0) (n' := 0) rfl rfl rfl rfl rfl ?_
      refine q_if_eq F (tgt := 39) dX11_by_31 (by decide) (fun h_31 => ?_) (fun h_31 => ?_)
      · skip
        have hb_31 := bI_0 h_31
        refine q_aload_n F 0 dX11_by_39 rfl ?_
        refine q_iload_n F 1 dX11_by_40 rfl ?_
        refine q_iload_n F 2 dX11_by_41 rfl ?_
        refine q_callV F (ci := 11) (As := [.int (nI lw), .int y]) (rest := []) (List.mem_append_left _ (List.mem_of_getElem? (i := 0) rfl)) rfl (c_X11_byOf l E a f hh A tl T hm hn hR hO hp3 lw hl3 y) (List.Perm.refl _) gX11_by_X11_byOf rfl rfl rfl hd_X11_byOf ⟨by decide, by decide⟩ rfl (Nat.le_of_ble_eq_true rfl) dX11_by_42 ⟨Nat.le_of_ble_eq_true rfl, Nat.le_of_ble_eq_true rfl⟩ (fun v_ w_ hvw => ?_)
        obtain ⟨hv_, f1, A1, hw_, hkf, hka⟩ := hvw
        rw [hv_, hw_]
        refine q_at (pc' := 45) (st' := [.int (byV (byG T f A lw) y)]) (ws' := mC E a f1 hh A1 ++ tl) (k' := 0) (n' := 0) rfl rfl rfl rfl rfl ?_
        refine q_iret F hr_ dX11_by_45 (hp_ _ _ ⟨congrArg (fun z => some (Value.int z)) ?_, f1, A1, rfl, hkf, hka⟩)
        · simp_all [byM]
      · skip
        have hb_31 := bI_1 h_31
        refine q_bipush F dX11_by_34 (v := (-103)) (by decide) ?_
        refine q_goto F (tgt := 45) dX11_by_36 (by decide) ?_
        refine q_iret F hr_ dX11_by_45 (hp_ _ _ ⟨congrArg (fun z => some (Value.int z)) ?_, f, A, rfl, kpF_r f, kpA_r A⟩)
        · simp_all [byM]
    · skip
      have hb_21 := bI_0 h_21
      refine q_bipush F dX11_by_24 (v := (-102)) (by decide) ?_
      refine q_iret F hr_ dX11_by_26 (hp_ _ _ ⟨congrArg (fun z => some (Value.int z)) ?_, f, A, rfl, kpF_r f, kpA_r A⟩)
      · simp_all [byM]

set_option maxHeartbeats 4000000 in
set_option maxRecDepth 100000 in
theorem c_X11_draw (l : Launch) (E : gEnv) (a : Nat → Nat) (f : Nat → Int32) (hh : Int64) (A : Nat → Nat → Int32) (tl : va_W) (k : Nat) (hk : 0 < k) (hk2 : k < 1000) : Cn l E yX11_draw wsX11_draw (rmL 0 0 0) [.ref (a 32), .int (nI k)] (mC E a f hh A ++ tl) 0 0 (fun v w => v = some (.int (nI (drN (f 22) k))) ∧ w = mC E a (upd f 22 (sdN (f 22))) hh A ++ tl) := by
  refine Cn.of (own := RX11) (cc := cX11_draw) (maxL := 2) (ret := (some .int)) (lv := [(0, .ref (a 32)), (1, .int (nI k))]) (by decide) rfl rfl (Nat.le_of_ble_eq_true rfl) rfl ?_
  intro p_ e_ s_ m_ args_ below_ meth_ c_ A_ P_ hp_ F hr_ hnm_
  have hk195 : Cond.constantLong RX11 195 (1103515245) ∈ wsX11_draw := by decide +kernel
  have hf197_11 : Cond.fieldLink RX11 197 "KeyOnStreetModel" (TX11 22).2.1 (TX11 22).2.2.1 ∈ wsX11_draw := by decide +kernel
  have hi11 : ∀ w ∈ u_ws RX11 TX11 32, w ∈ wsX11_draw := by decide +kernel
  have hk200 : Cond.constantLong RX11 200 (12345) ∈ wsX11_draw := by decide +kernel
  have hk202 : Cond.constantLong RX11 202 (2147483647) ∈ wsX11_draw := by decide +kernel
  have hk204 : Cond.constant RX11 204 (nI 65536) ∈ wsX11_draw := by decide +kernel
  refine q_aload_n F 0 dX11_draw_0 rfl ?_
  refine q_ldc2 F hk195 dX11_draw_1 ?_
  refine q_aload_n F 0 dX11_draw_4 rfl ?_
  refine q_get F (ci := 11) (j := 22) (v := .int (f 22)) (List.mem_append_left _ (List.mem_of_getElem? (i := 0) rfl)) rfl hi11 (by decide) hf197_11 rfl rfl dX11_draw_5 ?_
  refine q_i2l F dX11_draw_8 ?_
  refine q_lmul F dX11_draw_9 ?_
  refine q_ldc2 F hk200 dX11_draw_10 ?_
  refine q_ladd F dX11_draw_13 ?_
  refine q_ldc2 F hk202 dX11_draw_14 ?_
  refine q_land F dX11_draw_17 ?_
  refine q_l2i F dX11_draw_18 ?_
  obtain ⟨sn, hsn, esn⟩ := sdN_nat (f 22)
  refine q_toi (nI sn) (by rw [← esn]; rfl) ?_
  refine q_put F (j := 22) 0 rfl rfl hi11 tyX11 tyX11_ok nmX11 (by decide) hf197_11 rfl rfl rfl rfl (Nat.le_of_ble_eq_true rfl) dX11_draw_19 (ws' := mC E a (upd f 22 (nI sn)) hh A ++ tl) rfl ?_
  refine q_aload_n F 0 dX11_draw_22 rfl ?_
  refine q_get F (ci := 11) (j := 22) (v := .int (nI sn)) (List.mem_append_left _ (List.mem_of_getElem? (i := 0) rfl)) rfl hi11 (by decide) hf197_11 rfl rfl dX11_draw_23 ?_
  refine q_ldc F hk204 dX11_draw_26 ?_
  refine q_idiv F dX11_draw_28 (nI_ne0 (by omega) (by omega)) ?_
  refine q_toi (nI (sn / 65536)) (pk_div (by omega) (by omega) (by omega)) ?_
  refine q_iload_n F 1 dX11_draw_29 rfl ?_
  refine q_irem F dX11_draw_30 (nI_ne0 (by omega) (by omega)) ?_
  refine q_toi (nI ((sn / 65536) % k)) (pk_rem (by omega) (by omega) (by omega)) ?_
  refine q_iret F hr_ dX11_draw_31 (hp_ _ _ ⟨congrArg (fun z => some (Value.int z)) ?_, ?_⟩)
  · rw [drN, esn, nI_clamp hsn]
  · rw [esn]

set_option maxHeartbeats 4000000 in
set_option maxRecDepth 100000 in
theorem c_X11_sumOf (l : Launch) (E : gEnv) (a : Nat → Nat) (f : Nat → Int32) (hh : Int64) (A : Nat → Nat → Int32) (tl : va_W) (T : gTown) (hm : f 2 = nI (tN T)) (hn : tN T ≤ 6) (w : Nat) (hw8 : w < 8) : Cn l E yX11_sumOf wsX11_sumOf (rmL 1 0 0) [.ref (a 32), .int (nI w)] (mC E a f hh A ++ tl) 0 0 (fun v q => v = some (.int (smM (A 7) w (tN T))) ∧ q = mC E a f hh A ++ tl) := by
  refine Cn.of (own := RX11) (cc := cX11_sumOf) (maxL := 4) (ret := (some .int)) (lv := [(0, .ref (a 32)), (1, .int (nI w))]) (by decide) rfl rfl (Nat.le_of_ble_eq_true rfl) rfl ?_
  intro p_ e_ s_ m_ args_ below_ meth_ c_ A_ P_ hp_ F hr_ hnm_
  have hf67_11 : Cond.fieldLink RX11 67 "KeyOnStreetModel" (TX11 2).2.1 (TX11 2).2.2.1 ∈ wsX11_sumOf := by decide +kernel
  have hi11 : ∀ w ∈ u_ws RX11 TX11 32, w ∈ wsX11_sumOf := by decide +kernel
  have hf13_11 : Cond.fieldLink RX11 13 "KeyOnStreetModel" (TX11 7).2.1 (TX11 7).2.2.1 ∈ wsX11_sumOf := by decide +kernel
  have hd_X11_isShut : yX11_isShut.cls = RX11 ∧ yX11_isShut.cls ≠ "java/lang/invoke/MethodHandle" ∧ yX11_isShut.cls ≠ "java/lang/invoke/VarHandle" ∧ (parseMethodDescriptor yX11_isShut.desc).map (fun d => d.parameters.length) = some 1 := by decide +kernel
  refine q_iconst F dX11_sumOf_0 (v := nI 0) (by decide) ?_
  refine q_istore_n F (lv' := [(2, .int (nI 0)), (0, .ref (a 32)), (1, .int (nI w))]) dX11_sumOf_1 (by decide) rfl ?_
  refine q_iconst F dX11_sumOf_2 (v := nI 0) (by decide) ?_
  refine q_istore_n F (lv' := [(3, .int (nI 0)), (2, .int (nI 0)), (0, .ref (a 32)), (1, .int (nI w))]) dX11_sumOf_3 (by decide) rfl ?_
  have lb4 : ∀ (fu : Nat) (i : Nat) (hi : i ≤ tN T), tN T - i < fu → gW p_ l e_ (rmL 1 0 0) s_ m_ args_ below_ meth_ c_ E A_ 4 (MQ below_ (gQ E A_ P_) args_ s_ 0 0 A_) 4 [(0, .ref (a 32)), (1, .int (nI w)), (2, .int (smM (A 7) w i)), (3, .int (nI i))] [] (mC E a f hh A ++ tl) 0 0 := by
    intro fu_4
    induction fu_4 with
    | zero => intro i hi hfu; exact absurd hfu (Nat.not_lt_zero _)
    | succ fu_4 ih_4 =>
      intro i hi hfu_4
      refine q_iload_n F 3 dX11_sumOf_4 rfl ?_
      refine q_aload_n F 0 dX11_sumOf_5 rfl ?_
      refine q_get F (ci := 11) (j := 2) (v := .int (f 2)) (List.mem_append_left _ (List.mem_of_getElem? (i := 0) rfl)) rfl hi11 (by decide) hf67_11 rfl rfl dX11_sumOf_6 ?_
      refine q_toi (nI (tN T)) (hm) ?_
      refine q_icmp_ge F (tgt := 53) dX11_sumOf_9 (by decide) (fun h_9 => ?_) (fun h_9 => ?_)
      · skip
        have hn_9 : i ≥ (tN T) := nf_ge_t (by omega) (by omega) h_9
        refine q_iload_n F 2 dX11_sumOf_53 rfl ?_
        refine q_iret F hr_ dX11_sumOf_54 (hp_ _ _ ⟨congrArg (fun z => some (Value.int z)) ?_, ?_⟩)
        · (have e6 : i = tN T := by omega); rw [e6]
        · rfl
      · skip
        have hn_9 : i < (tN T) := nf_ge_f (by omega) (by omega) h_9
        refine q_iload_n F 2 dX11_sumOf_12 rfl ?_
        refine q_iload_n F 1 dX11_sumOf_13 rfl ?_
        refine q_iconst F dX11_sumOf_14 (v := nI 4) (by decide) ?_
        refine q_icmp_ne F (tgt := 34) dX11_sumOf_15 (by decide) (fun h_15 => ?_) (fun h_15 => ?_)
        · skip
          have hn_15 : w ≠ 4 := nf_ne_t (by omega) (by omega) h_15
          refine q_aload_n F 0 dX11_sumOf_34 rfl ?_
          refine q_get F (ci := 11) (j := 7) (v := .ref (a 7)) (List.mem_append_left _ (List.mem_of_getElem? (i := 0) rfl)) rfl hi11 (by decide) hf13_11 rfl rfl dX11_sumOf_35 ?_
          refine q_bipush F dX11_sumOf_38 (v := nI 8) (by decide) ?_
          refine q_iload_n F 3 dX11_sumOf_40 rfl ?_
          refine q_imul F dX11_sumOf_41 ?_
          refine q_toi (nI (8 * i)) (pk_mul _ _) ?_
          refine q_iload_n F 1 dX11_sumOf_42 rfl ?_
          refine q_iadd F dX11_sumOf_43 ?_
          refine q_toi (nI (8 * i + w)) (nI_add _ _) ?_
          refine q_iald F (f := A 7) (List.mem_append_left _ (List.mem_of_getElem? (i := 2) rfl)) (8 * i + w) rfl (by omega) (by decide) dX11_sumOf_44 ?_
          refine q_iadd F dX11_sumOf_45 ?_
          refine q_istore_n F (lv' := [(2, .int ((smM (A 7) w i) + (A 7 (8 * i + w)))), (0, .ref (a 32)), (1, .int (nI w)), (3, .int (nI i))]) dX11_sumOf_46 (by decide) rfl ?_
          refine q_iinc F 3 (v := nI (i + 1)) (lv' := [(3, .int (nI (i + 1))), (2, .int ((smM (A 7) w i) + (A 7 (8 * i + w)))), (0, .ref (a 32)), (1, .int (nI w))]) dX11_sumOf_47 rfl (nI_1 _) (by decide) rfl ?_
          refine q_goto F (tgt := 4) dX11_sumOf_50 (by decide) ?_
          refine q_lv [2, 3, 1, 0] (lv' := [(0, .ref (a 32)), (1, .int (nI w)), (2, .int ((smM (A 7) w i) + (A 7 (8 * i + w)))), (3, .int (nI (i + 1)))]) rfl ?_
          refine q_to (lv' := [(0, .ref (a 32)), (1, .int (nI w)), (2, .int (smM (A 7) w (i + 1))), (3, .int (nI (i + 1)))]) (st' := []) (ws' := mC E a f hh A ++ tl) (cE (vE (rfl)) (cE (vE (rfl)) (cE (vE (congrArg Value.int (by simp [smM, bI, *]))) (cE (vE (rfl)) rfl)))) rfl rfl ?_
          exact ih_4 (i + 1) (by omega) (by omega)
        · skip
          have hn_15 : w = 4 := nf_ne_f (by omega) (by omega) h_15
          refine q_aload_n F 0 dX11_sumOf_18 rfl ?_
          refine q_iload_n F 3 dX11_sumOf_19 rfl ?_
          refine q_callV F (ci := 11) (As := [.int (nI i)]) (rest := [.int (smM (A 7) w i)]) (List.mem_append_left _ (List.mem_of_getElem? (i := 0) rfl)) rfl (c_X11_isShut l E a f hh A tl T hm hn i (by omega)) (List.Perm.refl _) gX11_sumOf_X11_isShut rfl rfl rfl hd_X11_isShut ⟨by decide, by decide⟩ rfl (Nat.le_of_ble_eq_true rfl) dX11_sumOf_20 ⟨Nat.le_of_ble_eq_true rfl, Nat.le_of_ble_eq_true rfl⟩ (fun v_ w_ hvw => ?_)
          rw [hvw.1, hvw.2]
          clear hvw
          refine q_at (pc' := 23) (st' := [.int (bI (outB (sF (A 7)) i)), .int (smM (A 7) w i)]) (ws' := mC E a f hh A ++ tl) (k' := 0) (n' := 0) rfl rfl rfl rfl rfl ?_
          refine q_if_eq F (tgt := 30) dX11_sumOf_23 (by decide) (fun h_23 => ?_) (fun h_23 => ?_)
          · skip
            have hb_23 := bI_0 h_23
            refine q_iconst F dX11_sumOf_30 (v := nI 0) (by decide) ?_
            refine q_goto F (tgt := 45) dX11_sumOf_31 (by decide) ?_
            refine q_iadd F dX11_sumOf_45 ?_
            refine q_istore_n F (lv' := [(2, .int ((smM (A 7) w i) + (nI 0))), (0, .ref (a 32)), (1, .int (nI w)), (3, .int (nI i))]) dX11_sumOf_46 (by decide) rfl ?_
            refine q_iinc F 3 (v := nI (i + 1)) (lv' := [(3, .int (nI (i + 1))), (2, .int ((smM (A 7) w i) + (nI 0))), (0, .ref (a 32)), (1, .int (nI w))]) dX11_sumOf_47 rfl (nI_1 _) (by decide) rfl ?_
            refine q_goto F (tgt := 4) dX11_sumOf_50 (by decide) ?_
            refine q_lv [2, 3, 1, 0] (lv' := [(0, .ref (a 32)), (1, .int (nI w)), (2, .int ((smM (A 7) w i) + (nI 0))), (3, .int (nI (i + 1)))]) rfl ?_
            refine q_to (lv' := [(0, .ref (a 32)), (1, .int (nI w)), (2, .int (smM (A 7) w (i + 1))), (3, .int (nI (i + 1)))]) (st' := []) (ws' := mC E a f hh A ++ tl) (cE (vE (rfl)) (cE (vE (rfl)) (cE (vE (congrArg Value.int (by simp [smM, bI, *]))) (cE (vE (rfl)) rfl)))) rfl rfl ?_
            exact ih_4 (i + 1) (by omega) (by omega)
          · skip
            have hb_23 := bI_1 h_23
            refine q_iconst F dX11_sumOf_26 (v := nI 1) (by decide) ?_
            refine q_goto F (tgt := 45) dX11_sumOf_27 (by decide) ?_
            refine q_iadd F dX11_sumOf_45 ?_
            refine q_istore_n F (lv' := [(2, .int ((smM (A 7) w i) + (nI 1))), (0, .ref (a 32)), (1, .int (nI w)), (3, .int (nI i))]) dX11_sumOf_46 (by decide) rfl ?_
            refine q_iinc F 3 (v := nI (i + 1)) (lv' := [(3, .int (nI (i + 1))), (2, .int ((smM (A 7) w i) + (nI 1))), (0, .ref (a 32)), (1, .int (nI w))]) dX11_sumOf_47 rfl (nI_1 _) (by decide) rfl ?_
            refine q_goto F (tgt := 4) dX11_sumOf_50 (by decide) ?_
            refine q_lv [2, 3, 1, 0] (lv' := [(0, .ref (a 32)), (1, .int (nI w)), (2, .int ((smM (A 7) w i) + (nI 1))), (3, .int (nI (i + 1)))]) rfl ?_
            refine q_to (lv' := [(0, .ref (a 32)), (1, .int (nI w)), (2, .int (smM (A 7) w (i + 1))), (3, .int (nI (i + 1)))]) (st' := []) (ws' := mC E a f hh A ++ tl) (cE (vE (rfl)) (cE (vE (rfl)) (cE (vE (congrArg Value.int (by simp [smM, bI, *]))) (cE (vE (rfl)) rfl)))) rfl rfl ?_
            exact ih_4 (i + 1) (by omega) (by omega)
  refine q_lv [2, 3, 1, 0] (lv' := [(0, .ref (a 32)), (1, .int (nI w)), (2, .int (nI 0)), (3, .int (nI 0))]) rfl ?_
  refine q_to (lv' := [(0, .ref (a 32)), (1, .int (nI w)), (2, .int (smM (A 7) w 0)), (3, .int (nI 0))]) (st' := []) (ws' := mC E a f hh A ++ tl) (cE (vE (rfl)) (cE (vE (rfl)) (cE (vE (congrArg Value.int (by simp [smM, bI, *]))) (cE (vE (rfl)) rfl)))) rfl rfl ?_
  exact lb4 (tN T - 0 + 1) 0 (by omega) (Nat.lt_succ_self _)
