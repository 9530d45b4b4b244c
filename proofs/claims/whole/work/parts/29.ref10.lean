set_option maxHeartbeats 4000000 in
set_option maxRecDepth 100000 in
theorem c_X11_best (l : Launch) (E : gEnv) (a : Nat → Nat) (f : Nat → Int32) (hh : Int64) (A : Nat → Nat → Int32) (tl : va_W) (T : gTown) (hm : f 2 = nI (tN T)) (hn : tN T ≤ 6) (hR : rowsOf (A 7) T) (hO : okT T) (hp3 : okP (f 3)) (x : Int32) (hne0 : ¬ tN T = 0 → ¬ (lbA T (f 5) (A 7) (f 3) (f 4)).1 = (-1)) : Cn l E yX11_best wsX11_best (rmL 4 0 0) [.ref (a 32), .int x] (mC E a f hh A ++ tl) 0 0 (fun v q => (inI x (nI 0) (nI 1) = false ∧ inI x (nI 10) (nI 15) = false ∧ v = some (.int (-102)) ∧ q = mC E a f hh A ++ tl) ∨ (∃ w : Nat, (w = 0 ∨ w = 1 ∨ (10 ≤ w ∧ w ≤ 15)) ∧ x = nI w ∧ tN T = 0 ∧ v = some (.int (-103)) ∧ q = mC E a f hh A ++ tl) ∨ ∃ w : Nat, (w = 0 ∨ w = 1 ∨ (10 ≤ w ∧ w ≤ 15)) ∧ x = nI w ∧ ¬ tN T = 0 ∧ scP E a f hh A tl (tbM (lbA T (f 5) (A 7) (f 3) (f 4)) (cnt (shB T (A 7)) (tN T)) w) v q) := by
  refine Cn.of (own := RX11) (cc := cX11_best) (maxL := 2) (ret := (some .int)) (lv := [(0, .ref (a 32)), (1, .int x)]) (by decide) rfl rfl (Nat.le_of_ble_eq_true rfl) rfl ?_
  intro p_ e_ s_ m_ args_ below_ meth_ c_ A_ P_ hp_ F hr_ hnm_
  have hd_X11_in : yX11_in.cls ≠ "java/lang/invoke/MethodHandle" ∧ yX11_in.cls ≠ "java/lang/invoke/VarHandle" ∧ (parseMethodDescriptor yX11_in.desc).map (fun d => d.parameters.length) = some 3 := by decide +kernel
  have hd_X11_lacks : yX11_lacks.cls = RX11 ∧ yX11_lacks.cls ≠ "java/lang/invoke/MethodHandle" ∧ yX11_lacks.cls ≠ "java/lang/invoke/VarHandle" ∧ (parseMethodDescriptor yX11_lacks.desc).map (fun d => d.parameters.length) = some 0 := by decide +kernel
  have hd_X11_tellBest : yX11_tellBest.cls = RX11 ∧ yX11_tellBest.cls ≠ "java/lang/invoke/MethodHandle" ∧ yX11_tellBest.cls ≠ "java/lang/invoke/VarHandle" ∧ (parseMethodDescriptor yX11_tellBest.desc).map (fun d => d.parameters.length) = some 1 := by decide +kernel
  have hk174 : Cond.constantLong RX11 174 (10) ∈ wsX11_best := by decide +kernel
  have hk176 : Cond.constantLong RX11 176 (15) ∈ wsX11_best := by decide +kernel
  refine q_iload_n F 1 dX11_best_0 rfl ?_
  refine q_i2l F dX11_best_1 ?_
  refine q_lconst F dX11_best_2 (v := 0) (by decide) ?_
  refine q_lconst F dX11_best_3 (v := 1) (by decide) ?_
  refine q_callS F (As := [.long x.toInt64, .long (0 : Int64), .long (1 : Int64)]) (rest := []) (c_X11_in l E (mC E a f hh A ++ tl) x.toInt64 (0 : Int64) (1 : Int64)) (List.Perm.refl _) gX11_best_X11_in rfl rfl rfl hd_X11_in ⟨by decide, by decide⟩ rfl (Nat.le_of_ble_eq_true rfl) dX11_best_4 ⟨Nat.le_of_ble_eq_true rfl, Nat.le_of_ble_eq_true rfl⟩ (fun v_ w_ hvw => ?_)
  rw [hvw.1, hvw.2]
  clear hvw
  refine q_at (pc' := 7) (st' := [.int (bI (inL x.toInt64 (0 : Int64) (1 : Int64)))]) (ws' := mC E a f hh A ++ tl) (k' := 0) (n' := 0) rfl rfl rfl rfl rfl ?_
  refine q_toi (bI (inI x (nI 0) (nI 1))) (congrArg bI (inL_I (by decide) (by decide))) ?_
  refine q_if_ne F (tgt := 27) dX11_best_7 (by decide) (fun h_7 => ?_) (fun h_7 => ?_)
  · skip
    have hb_7 := bI_1 h_7
    obtain ⟨w, hw1, hw2, rfl⟩ := inI_nat (by decide) (by decide) hb_7
    have hw9 : (w = 0 ∨ w = 1 ∨ (10 ≤ w ∧ w ≤ 15)) := by omega
    refine q_aload_n F 0 dX11_best_27 rfl ?_
    refine q_callV F (ci := 11) (As := []) (rest := []) (List.mem_append_left _ (List.mem_of_getElem? (i := 0) rfl)) rfl (c_X11_lacks l E a f hh A tl T hm hn ) (List.Perm.refl _) gX11_best_X11_lacks rfl rfl rfl hd_X11_lacks ⟨by decide, by decide⟩ rfl (Nat.le_of_ble_eq_true rfl) dX11_best_28 ⟨Nat.le_of_ble_eq_true rfl, Nat.le_of_ble_eq_true rfl⟩ (fun v_ w_ hvw => ?_)
    rw [hvw.1, hvw.2]
    clear hvw
    refine q_at (pc' := 31) (st' := [.int (bI (decide (tN T = 0)))]) (ws' := mC E a f hh A ++ tl) (k' := 0) (n' := 0) rfl rfl rfl rfl rfl ?_
    refine q_if_eq F (tgt := 39) dX11_best_31 (by decide) (fun h_31 => ?_) (fun h_31 => ?_)
    · skip
      have hb_31 := bI_0 h_31
      have hne := hne0 (by simpa using hb_31)
      refine q_aload_n F 0 dX11_best_39 rfl ?_
      refine q_iload_n F 1 dX11_best_40 rfl ?_
      refine q_callV F (ci := 11) (As := [.int (nI w)]) (rest := []) (List.mem_append_left _ (List.mem_of_getElem? (i := 0) rfl)) rfl (c_X11_tellBest l E a f hh A tl T hm hn hR hO hp3 w hw9 hne) (List.Perm.refl _) gX11_best_X11_tellBest rfl rfl rfl hd_X11_tellBest ⟨by decide, by decide⟩ rfl (Nat.le_of_ble_eq_true rfl) dX11_best_41 ⟨Nat.le_of_ble_eq_true rfl, Nat.le_of_ble_eq_true rfl⟩ (fun v_ w_ hvw => ?_)
      obtain ⟨hv_, f1, A1, hw_, hkf, hka⟩ := hvw
      rw [hv_, hw_]
      refine q_at (pc' := 44) (st' := [.int (tbM (lbA T (f 5) (A 7) (f 3) (f 4)) (cnt (shB T (A 7)) (tN T)) w)]) (ws' := mC E a f1 hh A1 ++ tl) (k' := 0) (n' := 0) rfl rfl rfl rfl rfl ?_
      exact q_iret F hr_ dX11_best_44 (hp_ _ _ (Or.inr (Or.inr ⟨w, hw9, rfl, by simpa using hb_31, rfl, f1, A1, rfl, hkf, hka⟩)))
    · skip
      have hb_31 := bI_1 h_31
      refine q_bipush F dX11_best_34 (v := (-103)) (by decide) ?_
      refine q_goto F (tgt := 44) dX11_best_36 (by decide) ?_
      exact q_iret F hr_ dX11_best_44 (hp_ _ _ (Or.inr (Or.inl ⟨w, hw9, rfl, by simpa using hb_31, rfl, rfl⟩)))
  · skip
    have hb_7 := bI_0 h_7
    refine q_iload_n F 1 dX11_best_10 rfl ?_
    refine q_i2l F dX11_best_11 ?_
    refine q_ldc2 F hk174 dX11_best_12 ?_
    refine q_ldc2 F hk176 dX11_best_15 ?_
    refine q_callS F (As := [.long x.toInt64, .long (10 : Int64), .long (15 : Int64)]) (rest := []) (c_X11_in l E (mC E a f hh A ++ tl) x.toInt64 (10 : Int64) (15 : Int64)) (List.Perm.refl _) gX11_best_X11_in rfl rfl rfl hd_X11_in ⟨by decide, by decide⟩ rfl (Nat.le_of_ble_eq_true rfl) dX11_best_18 ⟨Nat.le_of_ble_eq_true rfl, Nat.le_of_ble_eq_true rfl⟩ (fun v_ w_ hvw => ?_)
    rw [hvw.1, hvw.2]
    clear hvw
    refine q_at (pc' := 21) (st' := [.int (bI (inL x.toInt64 (10 : Int64) (15 : Int64)))]) (ws' := mC E a f hh A ++ tl) (k' := 0) (n' := 0) rfl rfl rfl rfl rfl ?_
    refine q_toi (bI (inI x (nI 10) (nI 15))) (congrArg bI (inL_I (by decide) (by decide))) ?_
    refine q_if_ne F (tgt := 27) dX11_best_21 (by decide) (fun h_21 => ?_) (fun h_21 => ?_)
    · skip
      have hb_21 := bI_1 h_21
      obtain ⟨w, hw1, hw2, rfl⟩ := inI_nat (by decide) (by decide) hb_21
      have hw9 : (w = 0 ∨ w = 1 ∨ (10 ≤ w ∧ w ≤ 15)) := by omega
      refine q_aload_n F 0 dX11_best_27 rfl ?_
      refine q_callV F (ci := 11) (As := []) (rest := []) (List.mem_append_left _ (List.mem_of_getElem? (i := 0) rfl)) rfl (c_X11_lacks l E a f hh A tl T hm hn ) (List.Perm.refl _) gX11_best_X11_lacks rfl rfl rfl hd_X11_lacks ⟨by decide, by decide⟩ rfl (Nat.le_of_ble_eq_true rfl) dX11_best_28 ⟨Nat.le_of_ble_eq_true rfl, Nat.le_of_ble_eq_true rfl⟩ (fun v_ w_ hvw => ?_)
      rw [hvw.1, hvw.2]
      clear hvw
      refine q_at (pc' := 31) (st' := [.int (bI (decide (tN T = 0)))]) (ws' := mC E a f hh A ++ tl) (k' := 0) (n' := 0) rfl rfl rfl rfl rfl ?_
      refine q_if_eq F (tgt := 39) dX11_best_31 (by decide) (fun h_31 => ?_) (fun h_31 => ?_)
      · skip
        have hb_31 := bI_0 h_31
        have hne := hne0 (by simpa using hb_31)
        refine q_aload_n F 0 dX11_best_39 rfl ?_
        refine q_iload_n F 1 dX11_best_40 rfl ?_
        refine q_callV F (ci := 11) (As := [.int (nI w)]) (rest := []) (List.mem_append_left _ (List.mem_of_getElem? (i := 0) rfl)) rfl (c_X11_tellBest l E a f hh A tl T hm hn hR hO hp3 w hw9 hne) (List.Perm.refl _) gX11_best_X11_tellBest rfl rfl rfl hd_X11_tellBest ⟨by decide, by decide⟩ rfl (Nat.le_of_ble_eq_true rfl) dX11_best_41 ⟨Nat.le_of_ble_eq_true rfl, Nat.le_of_ble_eq_true rfl⟩ (fun v_ w_ hvw => ?_)
        obtain ⟨hv_, f1, A1, hw_, hkf, hka⟩ := hvw
        rw [hv_, hw_]
        refine q_at (pc' := 44) (st' := [.int (tbM (lbA T (f 5) (A 7) (f 3) (f 4)) (cnt (shB T (A 7)) (tN T)) w)]) (ws' := mC E a f1 hh A1 ++ tl) (k' := 0) (n' := 0) rfl rfl rfl rfl rfl ?_
        exact q_iret F hr_ dX11_best_44 (hp_ _ _ (Or.inr (Or.inr ⟨w, hw9, rfl, by simpa using hb_31, rfl, f1, A1, rfl, hkf, hka⟩)))
      · skip
        have hb_31 := bI_1 h_31
        refine q_bipush F dX11_best_34 (v := (-103)) (by decide) ?_
        refine q_goto F (tgt := 44) dX11_best_36 (by decide) ?_
        exact q_iret F hr_ dX11_best_44 (hp_ _ _ (Or.inr (Or.inl ⟨w, hw9, rfl, by simpa using hb_31, rfl, rfl⟩)))
    · skip
      have hb_21 := bI_0 h_21
      refine q_bipush F dX11_best_24 (v := (-102)) (by decide) ?_
      exact q_iret F hr_ dX11_best_26 (hp_ _ _ (Or.inl ⟨hb_7, hb_21, rfl, rfl⟩))

set_option maxHeartbeats 4000000 in
set_option maxRecDepth 100000 in
theorem c_X11_hang (l : Launch) (E : gEnv) (a : Nat → Nat) (f : Nat → Int32) (hh : Int64) (A : Nat → Nat → Int32) (tl : va_W) (T : gTown) (hm : f 2 = nI (tN T)) (hn : tN T ≤ 6) (hR : rowsOf (A 7) T) (hO : okT T) (hk : Nat) (h19 : f 19 = nI hk) (hk30 : hk ≤ 30) : Cn l E yX11_hang wsX11_hang (rmL 3 0 0) [.ref (a 32)] (mC E a f hh A ++ tl) 0 0 (fun v w => ((tN T = 0 ∨ hk = 30) ∧ v = some (.int (-103)) ∧ w = mC E a f hh A ++ tl) ∨ (¬ tN T = 0 ∧ hk ≠ 30 ∧ scP E a (upd f 19 (nI (hk + 1))) hh A tl (hgF T (f 5) (A 7) (f 4) 10).1 v w)) := by
  refine Cn.of (own := RX11) (cc := cX11_hang) (maxL := 5) (ret := (some .int)) (lv := [(0, .ref (a 32))]) (by decide) rfl rfl (Nat.le_of_ble_eq_true rfl) rfl ?_
  intro p_ e_ s_ m_ args_ below_ meth_ c_ A_ P_ hp_ F hr_ hnm_
  have hd_X11_lacks : yX11_lacks.cls = RX11 ∧ yX11_lacks.cls ≠ "java/lang/invoke/MethodHandle" ∧ yX11_lacks.cls ≠ "java/lang/invoke/VarHandle" ∧ (parseMethodDescriptor yX11_lacks.desc).map (fun d => d.parameters.length) = some 0 := by decide +kernel
  have hf184_11 : Cond.fieldLink RX11 184 "KeyOnStreetModel" (TX11 19).2.1 (TX11 19).2.2.1 ∈ wsX11_hang := by decide +kernel
  have hi11 : ∀ w ∈ u_ws RX11 TX11 32, w ∈ wsX11_hang := by decide +kernel
  have hf73_11 : Cond.fieldLink RX11 73 "KeyOnStreetModel" (TX11 4).2.1 (TX11 4).2.2.1 ∈ wsX11_hang := by decide +kernel
  have hd_X11_layBest : yX11_layBest.cls = RX11 ∧ yX11_layBest.cls ≠ "java/lang/invoke/MethodHandle" ∧ yX11_layBest.cls ≠ "java/lang/invoke/VarHandle" ∧ (parseMethodDescriptor yX11_layBest.desc).map (fun d => d.parameters.length) = some 2 := by decide +kernel
  have hf148_11 : Cond.fieldLink RX11 148 "KeyOnStreetModel" (TX11 16).2.1 (TX11 16).2.2.1 ∈ wsX11_hang := by decide +kernel
  refine q_aload_n F 0 dX11_hang_0 rfl ?_
  refine q_callV F (ci := 11) (As := []) (rest := []) (List.mem_append_left _ (List.mem_of_getElem? (i := 0) rfl)) rfl (c_X11_lacks l E a f hh A tl T hm hn ) (List.Perm.refl _) gX11_hang_X11_lacks rfl rfl rfl hd_X11_lacks ⟨by decide, by decide⟩ rfl (Nat.le_of_ble_eq_true rfl) dX11_hang_1 ⟨Nat.le_of_ble_eq_true rfl, Nat.le_of_ble_eq_true rfl⟩ (fun v_ w_ hvw => ?_)
  rw [hvw.1, hvw.2]
  clear hvw
  refine q_at (pc' := 4) (st' := [.int (bI (decide (tN T = 0)))]) (ws' := mC E a f hh A ++ tl) (k' := 0) (n' := 0) rfl rfl rfl rfl rfl ?_
  refine q_if_ne F (tgt := 16) dX11_hang_4 (by decide) (fun h_4 => ?_) (fun h_4 => ?_)
  · skip
    have hb_4 := bI_1 h_4
    refine q_bipush F dX11_hang_16 (v := (-103)) (by decide) ?_
    exact q_iret F hr_ dX11_hang_18 (hp_ _ _ (Or.inl ⟨by simp_all, rfl, rfl⟩))
  · skip
    have hb_4 := bI_0 h_4
    refine q_aload_n F 0 dX11_hang_7 rfl ?_
    refine q_get F (ci := 11) (j := 19) (v := .int (f 19)) (List.mem_append_left _ (List.mem_of_getElem? (i := 0) rfl)) rfl hi11 (by decide) hf184_11 rfl rfl dX11_hang_8 ?_
    refine q_toi (nI hk) (h19) ?_
    refine q_bipush F dX11_hang_11 (v := nI 30) (by decide) ?_
    refine q_icmp_ne F (tgt := 19) dX11_hang_13 (by decide) (fun h_13 => ?_) (fun h_13 => ?_)
    · skip
      have hn_13 : hk ≠ 30 := nf_ne_t (by omega) (by omega) h_13
      refine q_aload_n F 0 dX11_hang_19 rfl ?_
      refine q_dup F dX11_hang_20 rfl ?_
      refine q_get F (ci := 11) (j := 19) (v := .int (f 19)) (List.mem_append_left _ (List.mem_of_getElem? (i := 0) rfl)) rfl hi11 (by decide) hf184_11 rfl rfl dX11_hang_21 ?_
      refine q_toi (nI hk) (h19) ?_
      refine q_iconst F dX11_hang_24 (v := nI 1) (by decide) ?_
      refine q_iadd F dX11_hang_25 ?_
      refine q_toi (nI (hk + 1)) (nI_add _ _) ?_
      refine q_put F (j := 19) 0 rfl rfl hi11 tyX11 tyX11_ok nmX11 (by decide) hf184_11 rfl rfl rfl rfl (Nat.le_of_ble_eq_true rfl) dX11_hang_26 (ws' := mC E a (upd f 19 (nI (hk + 1))) hh A ++ tl) rfl ?_
      refine q_iconst F dX11_hang_29 (v := (-1)) (by decide) ?_
      refine q_istore_n F (lv' := [(1, .int (-1)), (0, .ref (a 32))]) dX11_hang_30 (by decide) rfl ?_
      refine q_iconst F dX11_hang_31 (v := nI 0) (by decide) ?_
      refine q_istore_n F (lv' := [(2, .int (nI 0)), (1, .int (-1)), (0, .ref (a 32))]) dX11_hang_32 (by decide) rfl ?_
      refine q_iconst F dX11_hang_33 (v := nI 0) (by decide) ?_
      refine q_istore_n F (lv' := [(3, .int (nI 0)), (2, .int (nI 0)), (1, .int (-1)), (0, .ref (a 32))]) dX11_hang_34 (by decide) rfl ?_
      have lb35 : ∀ (fu : Nat) (p : Nat) (f9 : Nat → Int32) (A9 : Nat → Nat → Int32) (hp10 : p ≤ 10) (hkf : kpF (upd f 19 (nI (hk + 1))) f9) (hka : kpA A A9), 10 - p < fu → gW p_ l e_ (rmL 3 0 0) s_ m_ args_ below_ meth_ c_ E A_ 5 (MQ below_ (gQ E A_ P_) args_ s_ 0 0 A_) 35 [(0, .ref (a 32)), (1, .int ((hgF T (f 5) (A 7) (f 4) p).1)), (2, .int ((hgF T (f 5) (A 7) (f 4) p).2)), (3, .int (nI p))] [] (mC E a f9 hh A9 ++ tl) 0 0 := by
        intro fu_35
        induction fu_35 with
        | zero => intro p f9 A9 hp10 hkf hka hfu; exact absurd hfu (Nat.not_lt_zero _)
        | succ fu_35 ih_35 =>
          intro p f9 A9 hp10 hkf hka hfu_35
          refine q_iload_n F 3 dX11_hang_35 rfl ?_
          refine q_bipush F dX11_hang_36 (v := nI 10) (by decide) ?_
          refine q_icmp_ge F (tgt := 101) dX11_hang_38 (by decide) (fun h_38 => ?_) (fun h_38 => ?_)
          · skip
            have hn_38 : p ≥ 10 := nf_ge_t (by omega) (by omega) h_38
            refine q_iload_n F 1 dX11_hang_101 rfl ?_
            obtain rfl : p = 10 := by omega
            exact q_iret F hr_ dX11_hang_102 (hp_ _ _ (Or.inr ⟨by simpa using hb_4, hn_13, rfl, f9, A9, rfl, hkf, hka⟩))
          · skip
            have hn_38 : p < 10 := nf_ge_f (by omega) (by omega) h_38
            refine q_aload_n F 0 dX11_hang_41 rfl ?_
            refine q_iload_n F 3 dX11_hang_42 rfl ?_
            refine q_aload_n F 0 dX11_hang_43 rfl ?_
            refine q_get F (ci := 11) (j := 4) (v := .int (f9 4)) (List.mem_append_left _ (List.mem_of_getElem? (i := 0) rfl)) rfl hi11 (by decide) hf73_11 rfl rfl dX11_hang_44 ?_
            refine q_toi (f 4) (hkf 4 rfl) ?_
            refine q_callV F (ci := 11) (As := [.int (nI p), .int (f 4)]) (rest := []) (List.mem_append_left _ (List.mem_of_getElem? (i := 0) rfl)) rfl (c_X11_layBest l E a f9 hh A9 tl T ((hkf 2 rfl).trans hm) hn (by rw [hka 7 rfl]; exact hR) hO (nI p) (f 4) (okP_nI (by omega))) (List.Perm.refl _) gX11_hang_X11_layBest rfl rfl rfl hd_X11_layBest ⟨by decide, by decide⟩ rfl (Nat.le_of_ble_eq_true rfl) dX11_hang_47 ⟨Nat.le_of_ble_eq_true rfl, Nat.le_of_ble_eq_true rfl⟩ (fun v_ w_ hvw => ?_)
            obtain ⟨hv_, p9_0, i9_0, u9_0, l9_0, m9_0, s9_0, bo9_0, O9_0, BO9_0, W9_0, hw_, hl_0, hbo_0⟩ := hvw
            rw [hv_, hw_]
            clear hv_ hw_
            refine q_at (pc' := 50) (st' := []) (ws' := mC E a (upd (upd (upd (upd (upd (upd (upd f9 8 p9_0) 9 i9_0) 10 u9_0) 15 (nI (cnt (shB T (A9 7)) (tN T)))) 16 l9_0) 17 m9_0) 18 s9_0) hh (va_up (va_up (va_up A9 12 O9_0) 13 BO9_0) 14 W9_0) ++ tl) (k' := 0) (n' := 0) rfl rfl rfl rfl rfl ?_
            have hl2_0 : ((l9_0, m9_0, s9_0, bo9_0) : gLb) = lbA T (f9 5) (A9 7) (nI p) (f 4) := hl_0
            have e5 : f9 5 = f 5 := hkf 5 rfl
            have e7 : A9 7 = A 7 := hka 7 rfl
            rw [e5, e7] at hl2_0
            have el : l9_0 = (lbA T (f 5) (A 7) (nI p) (f 4)).1 := by rw [← hl2_0]
            refine q_iload_n F 1 dX11_hang_50 rfl ?_
            refine q_iconst F dX11_hang_51 (v := (-1)) (by decide) ?_
            have jn68 : gW p_ l e_ (rmL 3 0 0) s_ m_ args_ below_ meth_ c_ E A_ 5 (MQ below_ (gQ E A_ P_) args_ s_ 0 0 A_) 68 [(0, .ref (a 32)), (1, .int ((hgF T (f 5) (A 7) (f 4) p).1)), (2, .int ((hgF T (f 5) (A 7) (f 4) p).2)), (3, .int (nI p))] [.int (bI (decide ((hgF T (f 5) (A 7) (f 4) p).1 = (-1) ∨ l9_0 < (hgF T (f 5) (A 7) (f 4) p).2)))] (mC E a (upd (upd (upd (upd (upd (upd (upd f9 8 p9_0) 9 i9_0) 10 u9_0) 15 (nI (cnt (shB T (A9 7)) (tN T)))) 16 l9_0) 17 m9_0) 18 s9_0) hh (va_up (va_up (va_up A9 12 O9_0) 13 BO9_0) 14 W9_0) ++ tl) 0 0 := by
              refine q_istore F (lv' := [(4, .int (bI (decide ((hgF T (f 5) (A 7) (f 4) p).1 = (-1) ∨ l9_0 < (hgF T (f 5) (A 7) (f 4) p).2)))), (0, .ref (a 32)), (1, .int ((hgF T (f 5) (A 7) (f 4) p).1)), (2, .int ((hgF T (f 5) (A 7) (f 4) p).2)), (3, .int (nI p))]) dX11_hang_68 (by decide) rfl ?_
              refine q_iload F 0 dX11_hang_70 rfl ?_
              have jn80 : gW p_ l e_ (rmL 3 0 0) s_ m_ args_ below_ meth_ c_ E A_ 5 (MQ below_ (gQ E A_ P_) args_ s_ 0 0 A_) 80 [(4, .int (bI (decide ((hgF T (f 5) (A 7) (f 4) p).1 = (-1) ∨ l9_0 < (hgF T (f 5) (A 7) (f 4) p).2)))), (0, .ref (a 32)), (1, .int ((hgF T (f 5) (A 7) (f 4) p).1)), (2, .int ((hgF T (f 5) (A 7) (f 4) p).2)), (3, .int (nI p))] [.int ((hgF T (f 5) (A 7) (f 4) (p + 1)).1)] (mC E a (upd (upd (upd (upd (upd (upd (upd f9 8 p9_0) 9 i9_0) 10 u9_0) 15 (nI (cnt (shB T (A9 7)) (tN T)))) 16 l9_0) 17 m9_0) 18 s9_0) hh (va_up (va_up (va_up A9 12 O9_0) 13 BO9_0) 14 W9_0) ++ tl) 0 0 := by
                refine q_istore_n F (lv' := [(1, .int ((hgF T (f 5) (A 7) (f 4) (p + 1)).1)), (4, .int (bI (decide ((hgF T (f 5) (A 7) (f 4) p).1 = (-1) ∨ l9_0 < (hgF T (f 5) (A 7) (f 4) p).2)))), (0, .ref (a 32)), (2, .int ((hgF T (f 5) (A 7) (f 4) p).2)), (3, .int (nI p))]) dX11_hang_80 (by decide) rfl ?_
                refine q_iload F 1 dX11_hang_81 rfl ?_
                have jn94 : gW p_ l e_ (rmL 3 0 0) s_ m_ args_ below_ meth_ c_ E A_ 5 (MQ below_ (gQ E A_ P_) args_ s_ 0 0 A_) 94 [(1, .int ((hgF T (f 5) (A 7) (f 4) (p + 1)).1)), (4, .int (bI (decide ((hgF T (f 5) (A 7) (f 4) p).1 = (-1) ∨ l9_0 < (hgF T (f 5) (A 7) (f 4) p).2)))), (0, .ref (a 32)), (2, .int ((hgF T (f 5) (A 7) (f 4) p).2)), (3, .int (nI p))] [.int ((hgF T (f 5) (A 7) (f 4) (p + 1)).2)] (mC E a (upd (upd (upd (upd (upd (upd (upd f9 8 p9_0) 9 i9_0) 10 u9_0) 15 (nI (cnt (shB T (A9 7)) (tN T)))) 16 l9_0) 17 m9_0) 18 s9_0) hh (va_up (va_up (va_up A9 12 O9_0) 13 BO9_0) 14 W9_0) ++ tl) 0 0 := by
                  refine q_istore_n F (lv' := [(2, .int ((hgF T (f 5) (A 7) (f 4) (p + 1)).2)), (1, .int ((hgF T (f 5) (A 7) (f 4) (p + 1)).1)), (4, .int (bI (decide ((hgF T (f 5) (A 7) (f 4) p).1 = (-1) ∨ l9_0 < (hgF T (f 5) (A 7) (f 4) p).2)))), (0, .ref (a 32)), (3, .int (nI p))]) dX11_hang_94 (by decide) rfl ?_
                  refine q_iinc F 4 (v := nI (p + 1)) (lv' := [(3, .int (nI (p + 1))), (2, .int ((hgF T (f 5) (A 7) (f 4) (p + 1)).2)), (1, .int ((hgF T (f 5) (A 7) (f 4) (p + 1)).1)), (4, .int (bI (decide ((hgF T (f 5) (A 7) (f 4) p).1 = (-1) ∨ l9_0 < (hgF T (f 5) (A 7) (f 4) p).2)))), (0, .ref (a 32))]) dX11_hang_95 rfl (nI_1 _) (by decide) rfl ?_
                  refine q_goto F (tgt := 35) dX11_hang_98 (by decide) ?_
                  refine q_lv [4, 2, 1, 0] (lv' := [(0, .ref (a 32)), (1, .int ((hgF T (f 5) (A 7) (f 4) (p + 1)).1)), (2, .int ((hgF T (f 5) (A 7) (f 4) (p + 1)).2)), (3, .int (nI (p + 1)))]) rfl ?_
                  refine q_to (lv' := [(0, .ref (a 32)), (1, .int ((hgF T (f 5) (A 7) (f 4) (p + 1)).1)), (2, .int ((hgF T (f 5) (A 7) (f 4) (p + 1)).2)), (3, .int (nI (p + 1)))]) (st' := []) (ws' := mC E a (upd (upd (upd (upd (upd (upd (upd f9 8 p9_0) 9 i9_0) 10 u9_0) 15 (nI (cnt (shB T (A9 7)) (tN T)))) 16 l9_0) 17 m9_0) 18 s9_0) hh (va_up (va_up (va_up A9 12 O9_0) 13 BO9_0) 14 W9_0) ++ tl) rfl rfl rfl ?_
                  exact ih_35 (p + 1) (upd (upd (upd (upd (upd (upd (upd f9 8 p9_0) 9 i9_0) 10 u9_0) 15 (nI (cnt (shB T (A9 7)) (tN T)))) 16 l9_0) 17 m9_0) 18 s9_0) (va_up (va_up (va_up A9 12 O9_0) 13 BO9_0) 14 W9_0) (by omega) (by repeat (first | exact hkf | refine kpF_u (by decide) ?_)) (by repeat (first | exact hka | refine kpA_u (by decide) ?_)) (by omega)
                refine q_if_eq F (tgt := 93) dX11_hang_83 (by decide) (fun h_83 => ?_) (fun h_83 => ?_)
                · skip
                  have hb_83 := bI_0 h_83
                  refine q_iload_n F 3 dX11_hang_93 rfl ?_
                  refine q_toi ((hgF T (f 5) (A 7) (f 4) (p + 1)).2) (by rw [hgF, if_neg (by rw [← el]; simpa using hb_83)]) ?_
                  exact jn94
                · skip
                  have hb_83 := bI_1 h_83
                  refine q_aload_n F 2 dX11_hang_86 rfl ?_
                  refine q_get F (ci := 11) (j := 16) (v := .int l9_0) (List.mem_append_left _ (List.mem_of_getElem? (i := 0) rfl)) rfl hi11 (by decide) hf148_11 rfl rfl dX11_hang_87 ?_
                  refine q_goto F (tgt := 94) dX11_hang_90 (by decide) ?_
                  refine q_toi ((hgF T (f 5) (A 7) (f 4) (p + 1)).2) (by rw [hgF, if_pos (by rw [← el]; simpa using hb_83)]; exact el) ?_
                  exact jn94
              refine q_if_eq F (tgt := 79) dX11_hang_72 (by decide) (fun h_72 => ?_) (fun h_72 => ?_)
              · skip
                have hb_72 := bI_0 h_72
                refine q_iload_n F 2 dX11_hang_79 rfl ?_
                refine q_toi ((hgF T (f 5) (A 7) (f 4) (p + 1)).1) (by rw [hgF, if_neg (by rw [← el]; simpa using hb_72)]) ?_
                exact jn80
              · skip
                have hb_72 := bI_1 h_72
                refine q_iload_n F 4 dX11_hang_75 rfl ?_
                refine q_goto F (tgt := 80) dX11_hang_76 (by decide) ?_
                refine q_toi ((hgF T (f 5) (A 7) (f 4) (p + 1)).1) (by rw [hgF, if_pos (by rw [← el]; simpa using hb_72)]) ?_
                exact jn80
            refine q_icmp_eq F (tgt := 63) dX11_hang_52 (by decide) (fun h_52 => ?_) (fun h_52 => ?_)
            · skip
              refine q_iconst F dX11_hang_63 (v := nI 1) (by decide) ?_
              refine q_goto F (tgt := 68) dX11_hang_64 (by decide) ?_
              refine q_toi (bI (decide ((hgF T (f 5) (A 7) (f 4) p).1 = (-1) ∨ l9_0 < (hgF T (f 5) (A 7) (f 4) p).2))) (by rw [bI, decide_eq_true (Or.inl h_52)]; rfl) ?_
              exact jn68
            · skip
              refine q_aload_n F 0 dX11_hang_55 rfl ?_
              refine q_get F (ci := 11) (j := 16) (v := .int l9_0) (List.mem_append_left _ (List.mem_of_getElem? (i := 0) rfl)) rfl hi11 (by decide) hf148_11 rfl rfl dX11_hang_56 ?_
              refine q_iload_n F 2 dX11_hang_59 rfl ?_
              refine q_icmp_ge F (tgt := 67) dX11_hang_60 (by decide) (fun h_60 => ?_) (fun h_60 => ?_)
              · skip
                have hz_60 := Int32.not_lt.mpr h_60
                refine q_iconst F dX11_hang_67 (v := nI 0) (by decide) ?_
                refine q_toi (bI (decide ((hgF T (f 5) (A 7) (f 4) p).1 = (-1) ∨ l9_0 < (hgF T (f 5) (A 7) (f 4) p).2))) (by rw [bI, decide_eq_false (by rintro (z | z); exact h_52 z; exact hz_60 z)]; rfl) ?_
                exact jn68
              · skip
                have hz_60 := Int32.not_le.mp h_60
                refine q_iconst F dX11_hang_63 (v := nI 1) (by decide) ?_
                refine q_goto F (tgt := 68) dX11_hang_64 (by decide) ?_
                refine q_toi (bI (decide ((hgF T (f 5) (A 7) (f 4) p).1 = (-1) ∨ l9_0 < (hgF T (f 5) (A 7) (f 4) p).2))) (by rw [bI, decide_eq_true (Or.inr hz_60)]; rfl) ?_
                exact jn68
      refine q_lv [3, 2, 1, 0] (lv' := [(0, .ref (a 32)), (1, .int (-1)), (2, .int (nI 0)), (3, .int (nI 0))]) rfl ?_
      refine q_to (lv' := [(0, .ref (a 32)), (1, .int ((hgF T (f 5) (A 7) (f 4) 0).1)), (2, .int ((hgF T (f 5) (A 7) (f 4) 0).2)), (3, .int (nI 0))]) (st' := []) (ws' := mC E a (upd f 19 (nI (hk + 1))) hh A ++ tl) (cE (vE (rfl)) (cE (vE (congrArg Value.int (by rfl))) (cE (vE (congrArg Value.int (by rfl))) (cE (vE (rfl)) rfl)))) rfl rfl ?_
      exact lb35 (10 - 0 + 1) 0 (upd f 19 (nI (hk + 1))) A (by omega) (kpF_r _) (kpA_r _) (Nat.lt_succ_self _)
    · skip
      have hn_13 : hk = 30 := nf_ne_f (by omega) (by omega) h_13
      refine q_bipush F dX11_hang_16 (v := (-103)) (by decide) ?_
      exact q_iret F hr_ dX11_hang_18 (hp_ _ _ (Or.inl ⟨by simp_all, rfl, rfl⟩))
