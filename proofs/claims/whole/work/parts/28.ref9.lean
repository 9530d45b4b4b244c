/-! best, shortest, hang, two keys, by the reference -/
noncomputable def lbA (T : gTown) (m0 : Int32) (r : Nat → Int32) (x y : Int32) : gLb := fN (lbS T (shB T r) (cnt (shB T r) (tN T)) (x, m0, y, nI 0)) ((cnt (shB T r) (tN T)) ^ (cnt (shB T r) (tN T))) ((-1), m0, (-1), fun _ => 0)
noncomputable def tbM (acc : gLb) (K w : Nat) : Int32 := if w = 0 then acc.1 else if w = 1 then acc.2.1 else if w - 10 < K then nI (acc.2.2.2 (w - 10)) else (-1)
/-- where to hang, of the first p places: which, and how late by it -/
noncomputable def hgF (T : gTown) (m0 : Int32) (r : Nat → Int32) (y : Int32) : Nat → Int32 × Int32
  | 0 => ((-1), nI 0)
  | p + 1 => if (hgF T m0 r y p).1 = (-1) ∨ (lbA T m0 r (nI p) y).1 < (hgF T m0 r y p).2 then (nI p, (lbA T m0 r (nI p) y).1) else hgF T m0 r y p
theorem okP_nI {p : Nat} (h : p ≤ 9) : okP (nI p) := ⟨p, h, rfl⟩
set_option maxHeartbeats 4000000 in
set_option maxRecDepth 100000 in
theorem c_X11_tellBest (l : Launch) (E : gEnv) (a : Nat → Nat) (f : Nat → Int32) (hh : Int64) (A : Nat → Nat → Int32) (tl : va_W) (T : gTown) (hm : f 2 = nI (tN T)) (hn : tN T ≤ 6) (hR : rowsOf (A 7) T) (hO : okT T) (hp3 : okP (f 3)) (w : Nat) (hw : w = 0 ∨ w = 1 ∨ (10 ≤ w ∧ w ≤ 15)) (hne : ¬ (lbA T (f 5) (A 7) (f 3) (f 4)).1 = (-1)) : Cn l E yX11_tellBest wsX11_tellBest (rmL 3 0 0) [.ref (a 32), .int (nI w)] (mC E a f hh A ++ tl) 0 0 (scP E a f hh A tl (tbM (lbA T (f 5) (A 7) (f 3) (f 4)) (cnt (shB T (A 7)) (tN T)) w)) := by
  refine Cn.of (own := RX11) (cc := cX11_tellBest) (maxL := 2) (ret := (some .int)) (lv := [(0, .ref (a 32)), (1, .int (nI w))]) (by decide) rfl rfl (Nat.le_of_ble_eq_true rfl) rfl ?_
  intro p_ e_ s_ m_ args_ below_ meth_ c_ A_ P_ hp_ F hr_ hnm_
  have hf70_11 : Cond.fieldLink RX11 70 "KeyOnStreetModel" (TX11 3).2.1 (TX11 3).2.2.1 ∈ wsX11_tellBest := by decide +kernel
  have hi11 : ∀ w ∈ u_ws RX11 TX11 32, w ∈ wsX11_tellBest := by decide +kernel
  have hf73_11 : Cond.fieldLink RX11 73 "KeyOnStreetModel" (TX11 4).2.1 (TX11 4).2.2.1 ∈ wsX11_tellBest := by decide +kernel
  have hd_X11_layBest : yX11_layBest.cls = RX11 ∧ yX11_layBest.cls ≠ "java/lang/invoke/MethodHandle" ∧ yX11_layBest.cls ≠ "java/lang/invoke/VarHandle" ∧ (parseMethodDescriptor yX11_layBest.desc).map (fun d => d.parameters.length) = some 2 := by decide +kernel
  have hf141_11 : Cond.fieldLink RX11 141 "KeyOnStreetModel" (TX11 15).2.1 (TX11 15).2.2.1 ∈ wsX11_tellBest := by decide +kernel
  have hf22_11 : Cond.fieldLink RX11 22 "KeyOnStreetModel" (TX11 13).2.1 (TX11 13).2.2.1 ∈ wsX11_tellBest := by decide +kernel
  have hf151_11 : Cond.fieldLink RX11 151 "KeyOnStreetModel" (TX11 17).2.1 (TX11 17).2.2.1 ∈ wsX11_tellBest := by decide +kernel
  have hf148_11 : Cond.fieldLink RX11 148 "KeyOnStreetModel" (TX11 16).2.1 (TX11 16).2.2.1 ∈ wsX11_tellBest := by decide +kernel
  have hK6 : cnt (shB T (A 7)) (tN T) ≤ 6 := by have := cnt_le (shB T (A 7)) (tN T); omega
  refine q_aload_n F 0 dX11_tellBest_0 rfl ?_
  refine q_aload_n F 0 dX11_tellBest_1 rfl ?_
  refine q_get F (ci := 11) (j := 3) (v := .int (f 3)) (List.mem_append_left _ (List.mem_of_getElem? (i := 0) rfl)) rfl hi11 (by decide) hf70_11 rfl rfl dX11_tellBest_2 ?_
  refine q_aload_n F 0 dX11_tellBest_5 rfl ?_
  refine q_get F (ci := 11) (j := 4) (v := .int (f 4)) (List.mem_append_left _ (List.mem_of_getElem? (i := 0) rfl)) rfl hi11 (by decide) hf73_11 rfl rfl dX11_tellBest_6 ?_
  refine q_callV F (ci := 11) (As := [.int (f 3), .int (f 4)]) (rest := []) (List.mem_append_left _ (List.mem_of_getElem? (i := 0) rfl)) rfl (c_X11_layBest l E a f hh A tl T hm hn hR hO (f 3) (f 4) hp3) (List.Perm.refl _) gX11_tellBest_X11_layBest rfl rfl rfl hd_X11_layBest ⟨by decide, by decide⟩ rfl (Nat.le_of_ble_eq_true rfl) dX11_tellBest_9 ⟨Nat.le_of_ble_eq_true rfl, Nat.le_of_ble_eq_true rfl⟩ (fun v_ w_ hvw => ?_)
  obtain ⟨hv_, p9_0, i9_0, u9_0, l9_0, m9_0, s9_0, bo9_0, O9_0, BO9_0, W9_0, hw_, hl_0, hbo_0⟩ := hvw
  rw [hv_, hw_]
  clear hv_ hw_
  refine q_at (pc' := 12) (st' := []) (ws' := mC E a (upd (upd (upd (upd (upd (upd (upd f 8 p9_0) 9 i9_0) 10 u9_0) 15 (nI (cnt (shB T (A 7)) (tN T)))) 16 l9_0) 17 m9_0) 18 s9_0) hh (va_up (va_up (va_up A 12 O9_0) 13 BO9_0) 14 W9_0) ++ tl) (k' := 0) (n' := 0) rfl rfl rfl rfl rfl ?_
  have hl2_0 : ((l9_0, m9_0, s9_0, bo9_0) : gLb) = lbA T (f 5) (A 7) (f 3) (f 4) := hl_0
  refine q_iload_n F 1 dX11_tellBest_12 rfl ?_
  refine q_if_ne F (tgt := 23) dX11_tellBest_13 (by decide) (fun h_13 => ?_) (fun h_13 => ?_)
  · skip
    have hn_13 : w ≠ 0 := nf_ne_t0 (by omega) h_13
    refine q_iload_n F 1 dX11_tellBest_23 rfl ?_
    refine q_iconst F dX11_tellBest_24 (v := nI 1) (by decide) ?_
    refine q_icmp_ne F (tgt := 35) dX11_tellBest_25 (by decide) (fun h_25 => ?_) (fun h_25 => ?_)
    · skip
      have hn_25 : w ≠ 1 := nf_ne_t (by omega) (by omega) h_25
      refine q_iload_n F 1 dX11_tellBest_35 rfl ?_
      refine q_bipush F dX11_tellBest_36 (v := nI 10) (by decide) ?_
      refine q_isub F dX11_tellBest_38 ?_
      refine q_toi (nI (w - 10)) (pk_sub (by omega)) ?_
      refine q_aload_n F 0 dX11_tellBest_39 rfl ?_
      refine q_get F (ci := 11) (j := 15) (v := .int (nI (cnt (shB T (A 7)) (tN T)))) (List.mem_append_left _ (List.mem_of_getElem? (i := 0) rfl)) rfl hi11 (by decide) hf141_11 rfl rfl dX11_tellBest_40 ?_
      refine q_icmp_ge F (tgt := 58) dX11_tellBest_43 (by decide) (fun h_43 => ?_) (fun h_43 => ?_)
      · skip
        have hn_43 : (w - 10) ≥ (cnt (shB T (A 7)) (tN T)) := nf_ge_t (by omega) (by omega) h_43
        refine q_iconst F dX11_tellBest_58 (v := (-1)) (by decide) ?_
        refine q_iret F hr_ dX11_tellBest_59 (hp_ _ _ ⟨congrArg (fun z => some (Value.int z)) ?_, _, _, rfl, ?_, ?_⟩)
        · rw [tbM, if_neg hn_13, if_neg hn_25, if_neg (by omega)]
        · repeat (first | exact kpF_r _ | refine kpF_u (by decide) ?_)
        · repeat (first | exact kpA_r _ | refine kpA_u (by decide) ?_)
      · skip
        have hn_43 : (w - 10) < (cnt (shB T (A 7)) (tN T)) := nf_ge_f (by omega) (by omega) h_43
        refine q_aload_n F 0 dX11_tellBest_46 rfl ?_
        refine q_get F (ci := 11) (j := 13) (v := .ref (a 13)) (List.mem_append_left _ (List.mem_of_getElem? (i := 0) rfl)) rfl hi11 (by decide) hf22_11 rfl rfl dX11_tellBest_47 ?_
        refine q_iload_n F 1 dX11_tellBest_50 rfl ?_
        refine q_bipush F dX11_tellBest_51 (v := nI 10) (by decide) ?_
        refine q_isub F dX11_tellBest_53 ?_
        refine q_toi (nI (w - 10)) (pk_sub (by omega)) ?_
        refine q_iald F (f := BO9_0) (List.mem_append_left _ (List.mem_of_getElem? (i := 5) rfl)) (w - 10) rfl (by omega) (by decide) dX11_tellBest_54 ?_
        refine q_goto F (tgt := 59) dX11_tellBest_55 (by decide) ?_
        refine q_iret F hr_ dX11_tellBest_59 (hp_ _ _ ⟨congrArg (fun z => some (Value.int z)) ?_, _, _, rfl, ?_, ?_⟩)
        · rw [tbM, if_neg hn_13, if_neg hn_25, if_pos hn_43]; rcases hbo_0 with z | z; (exact absurd (by rw [← hl2_0]; exact z) hne); rw [z _ hn_43, ← hl2_0]
        · repeat (first | exact kpF_r _ | refine kpF_u (by decide) ?_)
        · repeat (first | exact kpA_r _ | refine kpA_u (by decide) ?_)
    · skip
      have hn_25 : w = 1 := nf_ne_f (by omega) (by omega) h_25
      refine q_aload_n F 0 dX11_tellBest_28 rfl ?_
      refine q_get F (ci := 11) (j := 17) (v := .int m9_0) (List.mem_append_left _ (List.mem_of_getElem? (i := 0) rfl)) rfl hi11 (by decide) hf151_11 rfl rfl dX11_tellBest_29 ?_
      refine q_goto F (tgt := 59) dX11_tellBest_32 (by decide) ?_
      refine q_iret F hr_ dX11_tellBest_59 (hp_ _ _ ⟨congrArg (fun z => some (Value.int z)) ?_, _, _, rfl, ?_, ?_⟩)
      · rw [tbM, if_neg hn_13, if_pos hn_25, ← hl2_0]
      · repeat (first | exact kpF_r _ | refine kpF_u (by decide) ?_)
      · repeat (first | exact kpA_r _ | refine kpA_u (by decide) ?_)
  · skip
    have hn_13 : w = 0 := nf_ne_f0 (by omega) h_13
    refine q_aload_n F 0 dX11_tellBest_16 rfl ?_
    refine q_get F (ci := 11) (j := 16) (v := .int l9_0) (List.mem_append_left _ (List.mem_of_getElem? (i := 0) rfl)) rfl hi11 (by decide) hf148_11 rfl rfl dX11_tellBest_17 ?_
    refine q_goto F (tgt := 59) dX11_tellBest_20 (by decide) ?_
    refine q_iret F hr_ dX11_tellBest_59 (hp_ _ _ ⟨congrArg (fun z => some (Value.int z)) ?_, _, _, rfl, ?_, ?_⟩)
    · rw [tbM, if_pos hn_13, ← hl2_0]
    · repeat (first | exact kpF_r _ | refine kpF_u (by decide) ?_)
    · repeat (first | exact kpA_r _ | refine kpA_u (by decide) ?_)

set_option maxHeartbeats 4000000 in
set_option maxRecDepth 100000 in
theorem c_X11_shortestOf (l : Launch) (E : gEnv) (a : Nat → Nat) (f : Nat → Int32) (hh : Int64) (A : Nat → Nat → Int32) (tl : va_W) (T : gTown) (hm : f 2 = nI (tN T)) (hn : tN T ≤ 6) (hR : rowsOf (A 7) T) (hO : okT T) (hp3 : okP (f 3)) : Cn l E yX11_shortestOf wsX11_shortestOf (rmL 3 0 0) [.ref (a 32)] (mC E a f hh A ++ tl) 0 0 (scP E a f hh A tl (lbA T (f 5) (A 7) (f 3) (f 4)).2.2.1) := by
  refine Cn.of (own := RX11) (cc := cX11_shortestOf) (maxL := 1) (ret := (some .int)) (lv := [(0, .ref (a 32))]) (by decide) rfl rfl (Nat.le_of_ble_eq_true rfl) rfl ?_
  intro p_ e_ s_ m_ args_ below_ meth_ c_ A_ P_ hp_ F hr_ hnm_
  have hf70_11 : Cond.fieldLink RX11 70 "KeyOnStreetModel" (TX11 3).2.1 (TX11 3).2.2.1 ∈ wsX11_shortestOf := by decide +kernel
  have hi11 : ∀ w ∈ u_ws RX11 TX11 32, w ∈ wsX11_shortestOf := by decide +kernel
  have hf73_11 : Cond.fieldLink RX11 73 "KeyOnStreetModel" (TX11 4).2.1 (TX11 4).2.2.1 ∈ wsX11_shortestOf := by decide +kernel
  have hd_X11_layBest : yX11_layBest.cls = RX11 ∧ yX11_layBest.cls ≠ "java/lang/invoke/MethodHandle" ∧ yX11_layBest.cls ≠ "java/lang/invoke/VarHandle" ∧ (parseMethodDescriptor yX11_layBest.desc).map (fun d => d.parameters.length) = some 2 := by decide +kernel
  have hf154_11 : Cond.fieldLink RX11 154 "KeyOnStreetModel" (TX11 18).2.1 (TX11 18).2.2.1 ∈ wsX11_shortestOf := by decide +kernel
  refine q_aload_n F 0 dX11_shortestOf_0 rfl ?_
  refine q_aload_n F 0 dX11_shortestOf_1 rfl ?_
  refine q_get F (ci := 11) (j := 3) (v := .int (f 3)) (List.mem_append_left _ (List.mem_of_getElem? (i := 0) rfl)) rfl hi11 (by decide) hf70_11 rfl rfl dX11_shortestOf_2 ?_
  refine q_aload_n F 0 dX11_shortestOf_5 rfl ?_
  refine q_get F (ci := 11) (j := 4) (v := .int (f 4)) (List.mem_append_left _ (List.mem_of_getElem? (i := 0) rfl)) rfl hi11 (by decide) hf73_11 rfl rfl dX11_shortestOf_6 ?_
  refine q_callV F (ci := 11) (As := [.int (f 3), .int (f 4)]) (rest := []) (List.mem_append_left _ (List.mem_of_getElem? (i := 0) rfl)) rfl (c_X11_layBest l E a f hh A tl T hm hn hR hO (f 3) (f 4) hp3) (List.Perm.refl _) gX11_shortestOf_X11_layBest rfl rfl rfl hd_X11_layBest ⟨by decide, by decide⟩ rfl (Nat.le_of_ble_eq_true rfl) dX11_shortestOf_9 ⟨Nat.le_of_ble_eq_true rfl, Nat.le_of_ble_eq_true rfl⟩ (fun v_ w_ hvw => ?_)
  obtain ⟨hv_, p9_0, i9_0, u9_0, l9_0, m9_0, s9_0, bo9_0, O9_0, BO9_0, W9_0, hw_, hl_0, hbo_0⟩ := hvw
  rw [hv_, hw_]
  clear hv_ hw_
  refine q_at (pc' := 12) (st' := []) (ws' := mC E a (upd (upd (upd (upd (upd (upd (upd f 8 p9_0) 9 i9_0) 10 u9_0) 15 (nI (cnt (shB T (A 7)) (tN T)))) 16 l9_0) 17 m9_0) 18 s9_0) hh (va_up (va_up (va_up A 12 O9_0) 13 BO9_0) 14 W9_0) ++ tl) (k' := 0) (n' := 0) rfl rfl rfl rfl rfl ?_
  have hl2_0 : ((l9_0, m9_0, s9_0, bo9_0) : gLb) = lbA T (f 5) (A 7) (f 3) (f 4) := hl_0
  refine q_aload_n F 0 dX11_shortestOf_12 rfl ?_
  refine q_get F (ci := 11) (j := 18) (v := .int s9_0) (List.mem_append_left _ (List.mem_of_getElem? (i := 0) rfl)) rfl hi11 (by decide) hf154_11 rfl rfl dX11_shortestOf_13 ?_
  refine q_iret F hr_ dX11_shortestOf_16 (hp_ _ _ ⟨congrArg (fun z => some (Value.int z)) ?_, _, _, rfl, ?_, ?_⟩)
  · rw [← hl2_0]
  · repeat (first | exact kpF_r _ | refine kpF_u (by decide) ?_)
  · repeat (first | exact kpA_r _ | refine kpA_u (by decide) ?_)

set_option maxHeartbeats 4000000 in
set_option maxRecDepth 100000 in
theorem c_X11_shortest (l : Launch) (E : gEnv) (a : Nat → Nat) (f : Nat → Int32) (hh : Int64) (A : Nat → Nat → Int32) (tl : va_W) (T : gTown) (hm : f 2 = nI (tN T)) (hn : tN T ≤ 6) (hR : rowsOf (A 7) T) (hO : okT T) (hp3 : okP (f 3)) : Cn l E yX11_shortest wsX11_shortest (rmL 4 0 0) [.ref (a 32)] (mC E a f hh A ++ tl) 0 0 (scP E a f hh A tl (if tN T = 0 then (-103) else (lbA T (f 5) (A 7) (f 3) (f 4)).2.2.1)) := by
  refine Cn.of (own := RX11) (cc := cX11_shortest) (maxL := 1) (ret := (some .int)) (lv := [(0, .ref (a 32))]) (by decide) rfl rfl (Nat.le_of_ble_eq_true rfl) rfl ?_
  intro p_ e_ s_ m_ args_ below_ meth_ c_ A_ P_ hp_ F hr_ hnm_
  have hd_X11_lacks : yX11_lacks.cls = RX11 ∧ yX11_lacks.cls ≠ "java/lang/invoke/MethodHandle" ∧ yX11_lacks.cls ≠ "java/lang/invoke/VarHandle" ∧ (parseMethodDescriptor yX11_lacks.desc).map (fun d => d.parameters.length) = some 0 := by decide +kernel
  have hd_X11_shortestOf : yX11_shortestOf.cls = RX11 ∧ yX11_shortestOf.cls ≠ "java/lang/invoke/MethodHandle" ∧ yX11_shortestOf.cls ≠ "java/lang/invoke/VarHandle" ∧ (parseMethodDescriptor yX11_shortestOf.desc).map (fun d => d.parameters.length) = some 0 := by decide +kernel
  refine q_aload_n F 0 dX11_shortest_0 rfl ?_
  refine q_callV F (ci := 11) (As := []) (rest := []) (List.mem_append_left _ (List.mem_of_getElem? (i := 0) rfl)) rfl (c_X11_lacks l E a f hh A tl T hm hn ) (List.Perm.refl _) gX11_shortest_X11_lacks rfl rfl rfl hd_X11_lacks ⟨by decide, by decide⟩ rfl (Nat.le_of_ble_eq_true rfl) dX11_shortest_1 ⟨Nat.le_of_ble_eq_true rfl, Nat.le_of_ble_eq_true rfl⟩ (fun v_ w_ hvw => ?_)
  rw [hvw.1, hvw.2]
  clear hvw
  refine q_at (pc' := 4) (st' := [.int (bI (decide (tN T = 0)))]) (ws' := mC E a f hh A ++ tl) (k' := 0) (n' := 0) rfl rfl rfl rfl rfl ?_
  refine q_if_eq F (tgt := 12) dX11_shortest_4 (by decide) (fun h_4 => ?_) (fun h_4 => ?_)
  · skip
    have hb_4 := bI_0 h_4
    refine q_aload_n F 0 dX11_shortest_12 rfl ?_
    refine q_callV F (ci := 11) (As := []) (rest := []) (List.mem_append_left _ (List.mem_of_getElem? (i := 0) rfl)) rfl (c_X11_shortestOf l E a f hh A tl T hm hn hR hO hp3) (List.Perm.refl _) gX11_shortest_X11_shortestOf rfl rfl rfl hd_X11_shortestOf ⟨by decide, by decide⟩ rfl (Nat.le_of_ble_eq_true rfl) dX11_shortest_13 ⟨Nat.le_of_ble_eq_true rfl, Nat.le_of_ble_eq_true rfl⟩ (fun v_ w_ hvw => ?_)
    obtain ⟨hv_, f1, A1, hw_, hkf, hka⟩ := hvw
    rw [hv_, hw_]
    refine q_at (pc' := 16) (st' := [.int ((lbA T (f 5) (A 7) (f 3) (f 4)).2.2.1)]) (ws' := mC E a f1 hh A1 ++ tl) (k' := 0) (n' := 0) rfl rfl rfl rfl rfl ?_
    exact q_iret F hr_ dX11_shortest_16 (hp_ _ _ ⟨by rw [if_neg (by simpa using hb_4)], f1, A1, rfl, hkf, hka⟩)
  · skip
    have hb_4 := bI_1 h_4
    refine q_bipush F dX11_shortest_7 (v := (-103)) (by decide) ?_
    refine q_goto F (tgt := 16) dX11_shortest_9 (by decide) ?_
    exact q_iret F hr_ dX11_shortest_16 (hp_ _ _ ⟨by rw [if_pos (by simpa using hb_4)], f, A, rfl, kpF_r f, kpA_r A⟩)
