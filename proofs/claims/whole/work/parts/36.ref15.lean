/-! what the reference says of the town, for the digest -/
def sy (h : Int64) (x : Int32) : Int64 := (31 : Int64) * h + x.toInt64
def syB (T : gTown) (f : gF) (A : gA) (l : Nat) (h : Int64) : Nat → Int64
  | 0 => h
  | j + 1 => sy (syB T f A l h j) (byV (byG T f A l) (nI j))
def syL (T : gTown) (f : gF) (A : gA) (h : Int64) : Nat → Int64
  | 0 => h
  | l + 1 => syB T f A l (sy (syL T f A h l) (nxS T l (sF (A 7)) (shB T (A 7)) (f 3))) 3
def syE (h : Int64) (z : gLb) (K : Nat) (c g : Int32) : Int64 := sy (sy (sy (sy (sy (sy h z.1) z.2.1) (if 0 < K then nI (z.2.2.2 0) else (-1))) z.2.2.1) c) g
set_option maxHeartbeats 4000000 in
set_option maxRecDepth 100000 in
theorem c_X11_sayTown (l : Launch) (E : gEnv) (a : Nat → Nat) (f : Nat → Int32) (hh : Int64) (A : Nat → Nat → Int32) (tl : va_W) (T : gTown) (hm : f 2 = nI (tN T)) (hn : tN T ≤ 6) (hR : rowsOf (A 7) T) (hO : okT T) (sk : Nat) (h20 : f 20 = nI sk) (hsk : sk ≤ 6) (sh : Nat → Nat) (hsh : ∀ k, k < sk → A 21 (3 * k) = nI (sh k) ∧ sh k < 6) (hp3 : okP (f 3)) (hne : ¬ (lbA T (f 5) (A 7) (f 3) (f 4)).1 = (-1)) : Cn l E yX11_sayTown wsX11_sayTown (rmL 5 0 0) [.ref (a 32)] (mC E a f hh A ++ tl) 0 0 (fun v w => v = none ∧ ∃ (f' : Nat → Int32) (A' : Nat → Nat → Int32), w = mC E a f' (syE (syL T f A hh 3) (lbA T (f 5) (A 7) (f 3) (f 4)) (cnt (shB T (A 7)) (tN T)) (guC T (A 7) (A 21) sh sk 30) (guL T (A 7) (A 21) sh sk 30)) A' ++ tl ∧ kpF f f' ∧ kpA A A') := by
  refine Cn.of (own := RX11) (cc := cX11_sayTown) (maxL := 3) (ret := none) (lv := [(0, .ref (a 32))]) (by decide) rfl rfl (Nat.le_of_ble_eq_true rfl) rfl ?_
  intro p_ e_ s_ m_ args_ below_ meth_ c_ A_ P_ hp_ F hr_ hnm_
  have hf70_11 : Cond.fieldLink RX11 70 "KeyOnStreetModel" (TX11 3).2.1 (TX11 3).2.2.1 ∈ wsX11_sayTown := by decide +kernel
  have hi11 : ∀ w ∈ u_ws RX11 TX11 32, w ∈ wsX11_sayTown := by decide +kernel
  have hf73_11 : Cond.fieldLink RX11 73 "KeyOnStreetModel" (TX11 4).2.1 (TX11 4).2.2.1 ∈ wsX11_sayTown := by decide +kernel
  have hd_X11_layBest : yX11_layBest.cls = RX11 ∧ yX11_layBest.cls ≠ "java/lang/invoke/MethodHandle" ∧ yX11_layBest.cls ≠ "java/lang/invoke/VarHandle" ∧ (parseMethodDescriptor yX11_layBest.desc).map (fun d => d.parameters.length) = some 2 := by decide +kernel
  have hf148_11 : Cond.fieldLink RX11 148 "KeyOnStreetModel" (TX11 16).2.1 (TX11 16).2.2.1 ∈ wsX11_sayTown := by decide +kernel
  have hd_X11_say : yX11_say.cls = RX11 ∧ yX11_say.cls ≠ "java/lang/invoke/MethodHandle" ∧ yX11_say.cls ≠ "java/lang/invoke/VarHandle" ∧ (parseMethodDescriptor yX11_say.desc).map (fun d => d.parameters.length) = some 1 := by decide +kernel
  have hf151_11 : Cond.fieldLink RX11 151 "KeyOnStreetModel" (TX11 17).2.1 (TX11 17).2.2.1 ∈ wsX11_sayTown := by decide +kernel
  have hf141_11 : Cond.fieldLink RX11 141 "KeyOnStreetModel" (TX11 15).2.1 (TX11 15).2.2.1 ∈ wsX11_sayTown := by decide +kernel
  have hk238 : Cond.constantLong RX11 238 (-1) ∈ wsX11_sayTown := by decide +kernel
  have hf154_11 : Cond.fieldLink RX11 154 "KeyOnStreetModel" (TX11 18).2.1 (TX11 18).2.2.1 ∈ wsX11_sayTown := by decide +kernel
  have hd_X11_guessOf : yX11_guessOf.cls = RX11 ∧ yX11_guessOf.cls ≠ "java/lang/invoke/MethodHandle" ∧ yX11_guessOf.cls ≠ "java/lang/invoke/VarHandle" ∧ (parseMethodDescriptor yX11_guessOf.desc).map (fun d => d.parameters.length) = some 1 := by decide +kernel
  have hf22_11 : Cond.fieldLink RX11 22 "KeyOnStreetModel" (TX11 13).2.1 (TX11 13).2.2.1 ∈ wsX11_sayTown := by decide +kernel
  have hd_X11_asItIs : yX11_asItIs.cls = RX11 ∧ yX11_asItIs.cls ≠ "java/lang/invoke/MethodHandle" ∧ yX11_asItIs.cls ≠ "java/lang/invoke/VarHandle" ∧ (parseMethodDescriptor yX11_asItIs.desc).map (fun d => d.parameters.length) = some 0 := by decide +kernel
  have hd_X11_shutBits : yX11_shutBits.cls = RX11 ∧ yX11_shutBits.cls ≠ "java/lang/invoke/MethodHandle" ∧ yX11_shutBits.cls ≠ "java/lang/invoke/VarHandle" ∧ (parseMethodDescriptor yX11_shutBits.desc).map (fun d => d.parameters.length) = some 0 := by decide +kernel
  have hd_X11_nextOf : yX11_nextOf.cls = RX11 ∧ yX11_nextOf.cls ≠ "java/lang/invoke/MethodHandle" ∧ yX11_nextOf.cls ≠ "java/lang/invoke/VarHandle" ∧ (parseMethodDescriptor yX11_nextOf.desc).map (fun d => d.parameters.length) = some 2 := by decide +kernel
  have hd_X11_byOf : yX11_byOf.cls = RX11 ∧ yX11_byOf.cls ≠ "java/lang/invoke/MethodHandle" ∧ yX11_byOf.cls ≠ "java/lang/invoke/VarHandle" ∧ (parseMethodDescriptor yX11_byOf.desc).map (fun d => d.parameters.length) = some 2 := by decide +kernel
  refine q_iconst F dX11_sayTown_0 (v := nI 0) (by decide) ?_
  refine q_istore_n F (lv' := [(1, .int (nI 0)), (0, .ref (a 32))]) dX11_sayTown_1 (by decide) rfl ?_
  have lb2 : ∀ (fu : Nat) (l_ : Nat) (f9 : Nat → Int32) (A9 : Nat → Nat → Int32) (hl_ : l_ ≤ 3) (hkf : kpF f f9) (hka : kpA A A9), 3 - l_ < fu → gW p_ l e_ (rmL 5 0 0) s_ m_ args_ below_ meth_ c_ E A_ 3 (MQ below_ (gQ E A_ P_) args_ s_ 0 0 A_) 2 [(0, .ref (a 32)), (1, .int (nI l_))] [] (mC E a f9 (syL T f A hh l_) A9 ++ tl) 0 0 := by
    intro fu_2
    induction fu_2 with
    | zero => intro l_ f9 A9 hl_ hkf hka hfu; exact absurd hfu (Nat.not_lt_zero _)
    | succ fu_2 ih_2 =>
      intro l_ f9 A9 hl_ hkf hka hfu_2
      refine q_iload_n F 1 dX11_sayTown_2 rfl ?_
      refine q_iconst F dX11_sayTown_3 (v := nI 3) (by decide) ?_
      refine q_icmp_ge F (tgt := 55) dX11_sayTown_4 (by decide) (fun h_4 => ?_) (fun h_4 => ?_)
      · skip
        have hn_4 : l_ ≥ 3 := nf_ge_t (by omega) (by omega) h_4
        obtain rfl : l_ = 3 := by omega
        refine q_aload_n F 0 dX11_sayTown_55 rfl ?_
        refine q_aload_n F 0 dX11_sayTown_56 rfl ?_
        refine q_get F (ci := 11) (j := 3) (v := .int (f9 3)) (List.mem_append_left _ (List.mem_of_getElem? (i := 0) rfl)) rfl hi11 (by decide) hf70_11 rfl rfl dX11_sayTown_57 ?_
        refine q_aload_n F 0 dX11_sayTown_60 rfl ?_
        refine q_get F (ci := 11) (j := 4) (v := .int (f9 4)) (List.mem_append_left _ (List.mem_of_getElem? (i := 0) rfl)) rfl hi11 (by decide) hf73_11 rfl rfl dX11_sayTown_61 ?_
        refine q_callV F (ci := 11) (As := [.int (f9 3), .int (f9 4)]) (rest := []) (List.mem_append_left _ (List.mem_of_getElem? (i := 0) rfl)) rfl (c_X11_layBest l E a f9 (syL T f A hh 3) A9 tl T ((hkf 2 rfl).trans hm) hn (show rowsOf (A9 7) T by rw [hka 7 rfl]; exact hR) hO (f9 3) (f9 4) (show okP (f9 3) by rw [hkf 3 rfl]; exact hp3)) (List.Perm.refl _) gX11_sayTown_X11_layBest rfl rfl rfl hd_X11_layBest ⟨by decide, by decide⟩ rfl (Nat.le_of_ble_eq_true rfl) dX11_sayTown_64 ⟨Nat.le_of_ble_eq_true rfl, Nat.le_of_ble_eq_true rfl⟩ (fun v_ w_ hvw => ?_)
        obtain ⟨hv_, p9_0, i9_0, u9_0, l9_0, m9_0, s9_0, bo9_0, O9_0, BO9_0, W9_0, hw_, hl_0, hbo_0⟩ := hvw
        rw [hv_, hw_]
        clear hv_ hw_
        refine q_at (pc' := 67) (st' := []) (ws' := mC E a (upd (upd (upd (upd (upd (upd (upd f9 8 p9_0) 9 i9_0) 10 u9_0) 15 (nI (cnt (shB T (A9 7)) (tN T)))) 16 l9_0) 17 m9_0) 18 s9_0) (syL T f A hh 3) (va_up (va_up (va_up A9 12 O9_0) 13 BO9_0) 14 W9_0) ++ tl) (k' := 0) (n' := 0) rfl rfl rfl rfl rfl ?_
        have hl2_0 : ((l9_0, m9_0, s9_0, bo9_0) : gLb) = lbA T (f9 5) (A9 7) (f9 3) (f9 4) := hl_0
        refine q_aload_n F 0 dX11_sayTown_67 rfl ?_
        refine q_aload_n F 0 dX11_sayTown_68 rfl ?_
        refine q_get F (ci := 11) (j := 16) (v := .int l9_0) (List.mem_append_left _ (List.mem_of_getElem? (i := 0) rfl)) rfl hi11 (by decide) hf148_11 rfl rfl dX11_sayTown_69 ?_
        refine q_i2l F dX11_sayTown_72 ?_
        refine q_callV F (ci := 11) (As := [.long l9_0.toInt64]) (rest := []) (List.mem_append_left _ (List.mem_of_getElem? (i := 0) rfl)) rfl (c_X11_say l E a (upd (upd (upd (upd (upd (upd (upd f9 8 p9_0) 9 i9_0) 10 u9_0) 15 (nI (cnt (shB T (A9 7)) (tN T)))) 16 l9_0) 17 m9_0) 18 s9_0) (syL T f A hh 3) (va_up (va_up (va_up A9 12 O9_0) 13 BO9_0) 14 W9_0) tl l9_0.toInt64) (List.Perm.refl _) gX11_sayTown_X11_say rfl rfl rfl hd_X11_say ⟨by decide, by decide⟩ rfl (Nat.le_of_ble_eq_true rfl) dX11_sayTown_73 ⟨Nat.le_of_ble_eq_true rfl, Nat.le_of_ble_eq_true rfl⟩ (fun v_ w_ hvw => ?_)
        rw [hvw.1, hvw.2]
        clear hvw
        refine q_at (pc' := 76) (st' := []) (ws' := mC E a (upd (upd (upd (upd (upd (upd (upd f9 8 p9_0) 9 i9_0) 10 u9_0) 15 (nI (cnt (shB T (A9 7)) (tN T)))) 16 l9_0) 17 m9_0) 18 s9_0) ((31 : Int64) * (syL T f A hh 3) + l9_0.toInt64) (va_up (va_up (va_up A9 12 O9_0) 13 BO9_0) 14 W9_0) ++ tl) (k' := 0) (n' := 0) rfl rfl rfl rfl rfl ?_
        refine q_aload_n F 0 dX11_sayTown_76 rfl ?_
        refine q_aload_n F 0 dX11_sayTown_77 rfl ?_
        refine q_get F (ci := 11) (j := 17) (v := .int m9_0) (List.mem_append_left _ (List.mem_of_getElem? (i := 0) rfl)) rfl hi11 (by decide) hf151_11 rfl rfl dX11_sayTown_78 ?_
        refine q_i2l F dX11_sayTown_81 ?_
        refine q_callV F (ci := 11) (As := [.long m9_0.toInt64]) (rest := []) (List.mem_append_left _ (List.mem_of_getElem? (i := 0) rfl)) rfl (c_X11_say l E a (upd (upd (upd (upd (upd (upd (upd f9 8 p9_0) 9 i9_0) 10 u9_0) 15 (nI (cnt (shB T (A9 7)) (tN T)))) 16 l9_0) 17 m9_0) 18 s9_0) ((31 : Int64) * (syL T f A hh 3) + l9_0.toInt64) (va_up (va_up (va_up A9 12 O9_0) 13 BO9_0) 14 W9_0) tl m9_0.toInt64) (List.Perm.refl _) gX11_sayTown_X11_say rfl rfl rfl hd_X11_say ⟨by decide, by decide⟩ rfl (Nat.le_of_ble_eq_true rfl) dX11_sayTown_82 ⟨Nat.le_of_ble_eq_true rfl, Nat.le_of_ble_eq_true rfl⟩ (fun v_ w_ hvw => ?_)
        rw [hvw.1, hvw.2]
        clear hvw
        refine q_at (pc' := 85) (st' := []) (ws' := mC E a (upd (upd (upd (upd (upd (upd (upd f9 8 p9_0) 9 i9_0) 10 u9_0) 15 (nI (cnt (shB T (A9 7)) (tN T)))) 16 l9_0) 17 m9_0) 18 s9_0) ((31 : Int64) * ((31 : Int64) * (syL T f A hh 3) + l9_0.toInt64) + m9_0.toInt64) (va_up (va_up (va_up A9 12 O9_0) 13 BO9_0) 14 W9_0) ++ tl) (k' := 0) (n' := 0) rfl rfl rfl rfl rfl ?_
        refine q_aload_n F 0 dX11_sayTown_85 rfl ?_
        refine q_aload_n F 0 dX11_sayTown_86 rfl ?_
        refine q_get F (ci := 11) (j := 15) (v := .int (nI (cnt (shB T (A9 7)) (tN T)))) (List.mem_append_left _ (List.mem_of_getElem? (i := 0) rfl)) rfl hi11 (by decide) hf141_11 rfl rfl dX11_sayTown_87 ?_
        have hKle := cnt_le (shB T (A9 7)) (tN T)
        refine q_if_le F (tgt := 103) dX11_sayTown_90 (by decide) (fun h_90 => ?_) (fun h_90 => ?_)
        · skip
          have hn_90 : (cnt (shB T (A9 7)) (tN T)) ≤ 0 := nf_le_t0 (by omega) h_90
          refine q_ldc2 F hk238 dX11_sayTown_103 ?_
          refine q_callV F (ci := 11) (As := [.long (-1 : Int64)]) (rest := []) (List.mem_append_left _ (List.mem_of_getElem? (i := 0) rfl)) rfl (c_X11_say l E a (upd (upd (upd (upd (upd (upd (upd f9 8 p9_0) 9 i9_0) 10 u9_0) 15 (nI (cnt (shB T (A9 7)) (tN T)))) 16 l9_0) 17 m9_0) 18 s9_0) ((31 : Int64) * ((31 : Int64) * (syL T f A hh 3) + l9_0.toInt64) + m9_0.toInt64) (va_up (va_up (va_up A9 12 O9_0) 13 BO9_0) 14 W9_0) tl (-1 : Int64)) (List.Perm.refl _) gX11_sayTown_X11_say rfl rfl rfl hd_X11_say ⟨by decide, by decide⟩ rfl (Nat.le_of_ble_eq_true rfl) dX11_sayTown_106 ⟨Nat.le_of_ble_eq_true rfl, Nat.le_of_ble_eq_true rfl⟩ (fun v_ w_ hvw => ?_)
          rw [hvw.1, hvw.2]
          clear hvw
          refine q_at (pc' := 109) (st' := []) (ws' := mC E a (upd (upd (upd (upd (upd (upd (upd f9 8 p9_0) 9 i9_0) 10 u9_0) 15 (nI (cnt (shB T (A9 7)) (tN T)))) 16 l9_0) 17 m9_0) 18 s9_0) ((31 : Int64) * ((31 : Int64) * ((31 : Int64) * (syL T f A hh 3) + l9_0.toInt64) + m9_0.toInt64) + (-1 : Int64)) (va_up (va_up (va_up A9 12 O9_0) 13 BO9_0) 14 W9_0) ++ tl) (k' := 0) (n' := 0) rfl rfl rfl rfl rfl ?_
          refine q_aload_n F 0 dX11_sayTown_109 rfl ?_
          refine q_aload_n F 0 dX11_sayTown_110 rfl ?_
          refine q_get F (ci := 11) (j := 18) (v := .int s9_0) (List.mem_append_left _ (List.mem_of_getElem? (i := 0) rfl)) rfl hi11 (by decide) hf154_11 rfl rfl dX11_sayTown_111 ?_
          refine q_i2l F dX11_sayTown_114 ?_
          refine q_callV F (ci := 11) (As := [.long s9_0.toInt64]) (rest := []) (List.mem_append_left _ (List.mem_of_getElem? (i := 0) rfl)) rfl (c_X11_say l E a (upd (upd (upd (upd (upd (upd (upd f9 8 p9_0) 9 i9_0) 10 u9_0) 15 (nI (cnt (shB T (A9 7)) (tN T)))) 16 l9_0) 17 m9_0) 18 s9_0) ((31 : Int64) * ((31 : Int64) * ((31 : Int64) * (syL T f A hh 3) + l9_0.toInt64) + m9_0.toInt64) + (-1 : Int64)) (va_up (va_up (va_up A9 12 O9_0) 13 BO9_0) 14 W9_0) tl s9_0.toInt64) (List.Perm.refl _) gX11_sayTown_X11_say rfl rfl rfl hd_X11_say ⟨by decide, by decide⟩ rfl (Nat.le_of_ble_eq_true rfl) dX11_sayTown_115 ⟨Nat.le_of_ble_eq_true rfl, Nat.le_of_ble_eq_true rfl⟩ (fun v_ w_ hvw => ?_)
          rw [hvw.1, hvw.2]
          clear hvw
          refine q_at (pc' := 118) (st' := []) (ws' := mC E a (upd (upd (upd (upd (upd (upd (upd f9 8 p9_0) 9 i9_0) 10 u9_0) 15 (nI (cnt (shB T (A9 7)) (tN T)))) 16 l9_0) 17 m9_0) 18 s9_0) ((31 : Int64) * ((31 : Int64) * ((31 : Int64) * ((31 : Int64) * (syL T f A hh 3) + l9_0.toInt64) + m9_0.toInt64) + (-1 : Int64)) + s9_0.toInt64) (va_up (va_up (va_up A9 12 O9_0) 13 BO9_0) 14 W9_0) ++ tl) (k' := 0) (n' := 0) rfl rfl rfl rfl rfl ?_
          refine q_aload_n F 0 dX11_sayTown_118 rfl ?_
          refine q_aload_n F 0 dX11_sayTown_119 rfl ?_
          refine q_iconst F dX11_sayTown_120 (v := nI 0) (by decide) ?_
          refine q_callV F (ci := 11) (As := [.int (nI 0)]) (rest := [.ref (a 32)]) (List.mem_append_left _ (List.mem_of_getElem? (i := 0) rfl)) rfl (c_X11_guessOf l E a (upd (upd (upd (upd (upd (upd (upd f9 8 p9_0) 9 i9_0) 10 u9_0) 15 (nI (cnt (shB T (A9 7)) (tN T)))) 16 l9_0) 17 m9_0) 18 s9_0) ((31 : Int64) * ((31 : Int64) * ((31 : Int64) * ((31 : Int64) * (syL T f A hh 3) + l9_0.toInt64) + m9_0.toInt64) + (-1 : Int64)) + s9_0.toInt64) (va_up (va_up (va_up A9 12 O9_0) 13 BO9_0) 14 W9_0) tl T ((hkf 2 rfl).trans hm) hn (show rowsOf (A9 7) T by rw [hka 7 rfl]; exact hR) hO sk ((hkf 20 rfl).trans h20) hsk sh (show ∀ k, k < sk → A9 21 (3 * k) = nI (sh k) ∧ sh k < 6 by rw [hka 21 rfl]; exact hsh) (nI 0)) (List.Perm.refl _) gX11_sayTown_X11_guessOf rfl rfl rfl hd_X11_guessOf ⟨by decide, by decide⟩ rfl (Nat.le_of_ble_eq_true rfl) dX11_sayTown_121 ⟨Nat.le_of_ble_eq_true rfl, Nat.le_of_ble_eq_true rfl⟩ (fun v_ w_ hvw => ?_)
          obtain ⟨hv_, g1, G1, hw_, hg1, hG1⟩ := hvw
          rw [hv_, hw_]
          refine q_at (pc' := 124) (st' := [.int (if nI 0 = 0 then guC T (A9 7) (A9 21) sh sk 30 else guL T (A9 7) (A9 21) sh sk 30), .ref (a 32)]) (ws' := mC E a g1 ((31 : Int64) * ((31 : Int64) * ((31 : Int64) * ((31 : Int64) * (syL T f A hh 3) + l9_0.toInt64) + m9_0.toInt64) + (-1 : Int64)) + s9_0.toInt64) G1 ++ tl) (k' := 0) (n' := 0) rfl rfl rfl rfl rfl ?_
          have hkg : kpF f g1 := fun k hk => (hg1 k hk).trans ((show kpF f9 _ by repeat (first | exact kpF_r _ | refine kpF_u (by decide) ?_)) k hk |>.trans (hkf k hk))
          have hkG : kpA A G1 := fun k hk => (hG1 k hk).trans ((show kpA A9 _ by repeat (first | exact kpA_r _ | refine kpA_u (by decide) ?_)) k hk |>.trans (hka k hk))
          refine q_toi (guC T (A 7) (A 21) sh sk 30) (by rw [if_pos (show nI 0 = 0 by decide), hka 7 rfl, hka 21 rfl]) ?_
          refine q_i2l F dX11_sayTown_124 ?_
          refine q_callV F (ci := 11) (As := [.long ((guC T (A 7) (A 21) sh sk 30).toInt64)]) (rest := []) (List.mem_append_left _ (List.mem_of_getElem? (i := 0) rfl)) rfl (c_X11_say l E a g1 ((31 : Int64) * ((31 : Int64) * ((31 : Int64) * ((31 : Int64) * (syL T f A hh 3) + l9_0.toInt64) + m9_0.toInt64) + (-1 : Int64)) + s9_0.toInt64) G1 tl ((guC T (A 7) (A 21) sh sk 30).toInt64)) (List.Perm.refl _) gX11_sayTown_X11_say rfl rfl rfl hd_X11_say ⟨by decide, by decide⟩ rfl (Nat.le_of_ble_eq_true rfl) dX11_sayTown_125 ⟨Nat.le_of_ble_eq_true rfl, Nat.le_of_ble_eq_true rfl⟩ (fun v_ w_ hvw => ?_)
          rw [hvw.1, hvw.2]
          clear hvw
          refine q_at (pc' := 128) (st' := []) (ws' := mC E a g1 ((31 : Int64) * ((31 : Int64) * ((31 : Int64) * ((31 : Int64) * ((31 : Int64) * (syL T f A hh 3) + l9_0.toInt64) + m9_0.toInt64) + (-1 : Int64)) + s9_0.toInt64) + ((guC T (A 7) (A 21) sh sk 30).toInt64)) G1 ++ tl) (k' := 0) (n' := 0) rfl rfl rfl rfl rfl ?_
          refine q_aload_n F 0 dX11_sayTown_128 rfl ?_
          refine q_aload_n F 0 dX11_sayTown_129 rfl ?_
          refine q_iconst F dX11_sayTown_130 (v := nI 1) (by decide) ?_
          refine q_callV F (ci := 11) (As := [.int (nI 1)]) (rest := [.ref (a 32)]) (List.mem_append_left _ (List.mem_of_getElem? (i := 0) rfl)) rfl (c_X11_guessOf l E a g1 ((31 : Int64) * ((31 : Int64) * ((31 : Int64) * ((31 : Int64) * ((31 : Int64) * (syL T f A hh 3) + l9_0.toInt64) + m9_0.toInt64) + (-1 : Int64)) + s9_0.toInt64) + ((guC T (A 7) (A 21) sh sk 30).toInt64)) G1 tl T ((hkg 2 rfl).trans hm) hn (show rowsOf (G1 7) T by rw [hkG 7 rfl]; exact hR) hO sk ((hkg 20 rfl).trans h20) hsk sh (show ∀ k, k < sk → G1 21 (3 * k) = nI (sh k) ∧ sh k < 6 by rw [hkG 21 rfl]; exact hsh) (nI 1)) (List.Perm.refl _) gX11_sayTown_X11_guessOf rfl rfl rfl hd_X11_guessOf ⟨by decide, by decide⟩ rfl (Nat.le_of_ble_eq_true rfl) dX11_sayTown_131 ⟨Nat.le_of_ble_eq_true rfl, Nat.le_of_ble_eq_true rfl⟩ (fun v_ w_ hvw => ?_)
          obtain ⟨hv_, g2, G2, hw_, hg2, hG2⟩ := hvw
          rw [hv_, hw_]
          refine q_at (pc' := 134) (st' := [.int (if nI 1 = 0 then guC T (G1 7) (G1 21) sh sk 30 else guL T (G1 7) (G1 21) sh sk 30), .ref (a 32)]) (ws' := mC E a g2 ((31 : Int64) * ((31 : Int64) * ((31 : Int64) * ((31 : Int64) * ((31 : Int64) * (syL T f A hh 3) + l9_0.toInt64) + m9_0.toInt64) + (-1 : Int64)) + s9_0.toInt64) + ((guC T (A 7) (A 21) sh sk 30).toInt64)) G2 ++ tl) (k' := 0) (n' := 0) rfl rfl rfl rfl rfl ?_
          refine q_toi (guL T (A 7) (A 21) sh sk 30) (by rw [if_neg (by decide), hkG 7 rfl, hkG 21 rfl]) ?_
          refine q_i2l F dX11_sayTown_134 ?_
          refine q_callV F (ci := 11) (As := [.long ((guL T (A 7) (A 21) sh sk 30).toInt64)]) (rest := []) (List.mem_append_left _ (List.mem_of_getElem? (i := 0) rfl)) rfl (c_X11_say l E a g2 ((31 : Int64) * ((31 : Int64) * ((31 : Int64) * ((31 : Int64) * ((31 : Int64) * (syL T f A hh 3) + l9_0.toInt64) + m9_0.toInt64) + (-1 : Int64)) + s9_0.toInt64) + ((guC T (A 7) (A 21) sh sk 30).toInt64)) G2 tl ((guL T (A 7) (A 21) sh sk 30).toInt64)) (List.Perm.refl _) gX11_sayTown_X11_say rfl rfl rfl hd_X11_say ⟨by decide, by decide⟩ rfl (Nat.le_of_ble_eq_true rfl) dX11_sayTown_135 ⟨Nat.le_of_ble_eq_true rfl, Nat.le_of_ble_eq_true rfl⟩ (fun v_ w_ hvw => ?_)
          rw [hvw.1, hvw.2]
          clear hvw
          refine q_at (pc' := 138) (st' := []) (ws' := mC E a g2 ((31 : Int64) * ((31 : Int64) * ((31 : Int64) * ((31 : Int64) * ((31 : Int64) * ((31 : Int64) * (syL T f A hh 3) + l9_0.toInt64) + m9_0.toInt64) + (-1 : Int64)) + s9_0.toInt64) + ((guC T (A 7) (A 21) sh sk 30).toInt64)) + ((guL T (A 7) (A 21) sh sk 30).toInt64)) G2 ++ tl) (k' := 0) (n' := 0) rfl rfl rfl rfl rfl ?_
          refine q_vret F hr_ dX11_sayTown_138 (hp_ _ _ ⟨rfl, g2, G2, ?_, fun k hk => (hg2 k hk).trans (hkg k hk), fun k hk => (hG2 k hk).trans (hkG k hk)⟩)
          have hacc := hl2_0; rw [hkf 5 rfl, hka 7 rfl, hkf 3 rfl, hkf 4 rfl] at hacc
          rw [← hacc] at hne
          rw [← hacc]
          rw [syE, if_neg (by rw [hka 7 rfl] at hn_90; omega)]; rfl
        · skip
          have hn_90 : (cnt (shB T (A9 7)) (tN T)) > 0 := nf_le_f0 (by omega) h_90
          refine q_aload_n F 0 dX11_sayTown_93 rfl ?_
          refine q_get F (ci := 11) (j := 13) (v := .ref (a 13)) (List.mem_append_left _ (List.mem_of_getElem? (i := 0) rfl)) rfl hi11 (by decide) hf22_11 rfl rfl dX11_sayTown_94 ?_
          refine q_iconst F dX11_sayTown_97 (v := nI 0) (by decide) ?_
          refine q_iald F (f := BO9_0) (List.mem_append_left _ (List.mem_of_getElem? (i := 5) rfl)) 0 rfl (by omega) (by decide) dX11_sayTown_98 ?_
          refine q_i2l F dX11_sayTown_99 ?_
          refine q_goto F (tgt := 106) dX11_sayTown_100 (by decide) ?_
          refine q_callV F (ci := 11) (As := [.long ((BO9_0 0).toInt64)]) (rest := []) (List.mem_append_left _ (List.mem_of_getElem? (i := 0) rfl)) rfl (c_X11_say l E a (upd (upd (upd (upd (upd (upd (upd f9 8 p9_0) 9 i9_0) 10 u9_0) 15 (nI (cnt (shB T (A9 7)) (tN T)))) 16 l9_0) 17 m9_0) 18 s9_0) ((31 : Int64) * ((31 : Int64) * (syL T f A hh 3) + l9_0.toInt64) + m9_0.toInt64) (va_up (va_up (va_up A9 12 O9_0) 13 BO9_0) 14 W9_0) tl ((BO9_0 0).toInt64)) (List.Perm.refl _) gX11_sayTown_X11_say rfl rfl rfl hd_X11_say ⟨by decide, by decide⟩ rfl (Nat.le_of_ble_eq_true rfl) dX11_sayTown_106 ⟨Nat.le_of_ble_eq_true rfl, Nat.le_of_ble_eq_true rfl⟩ (fun v_ w_ hvw => ?_)
          rw [hvw.1, hvw.2]
          clear hvw
          refine q_at (pc' := 109) (st' := []) (ws' := mC E a (upd (upd (upd (upd (upd (upd (upd f9 8 p9_0) 9 i9_0) 10 u9_0) 15 (nI (cnt (shB T (A9 7)) (tN T)))) 16 l9_0) 17 m9_0) 18 s9_0) ((31 : Int64) * ((31 : Int64) * ((31 : Int64) * (syL T f A hh 3) + l9_0.toInt64) + m9_0.toInt64) + ((BO9_0 0).toInt64)) (va_up (va_up (va_up A9 12 O9_0) 13 BO9_0) 14 W9_0) ++ tl) (k' := 0) (n' := 0) rfl rfl rfl rfl rfl ?_
          refine q_aload_n F 0 dX11_sayTown_109 rfl ?_
          refine q_aload_n F 0 dX11_sayTown_110 rfl ?_
          refine q_get F (ci := 11) (j := 18) (v := .int s9_0) (List.mem_append_left _ (List.mem_of_getElem? (i := 0) rfl)) rfl hi11 (by decide) hf154_11 rfl rfl dX11_sayTown_111 ?_
          refine q_i2l F dX11_sayTown_114 ?_
          refine q_callV F (ci := 11) (As := [.long s9_0.toInt64]) (rest := []) (List.mem_append_left _ (List.mem_of_getElem? (i := 0) rfl)) rfl (c_X11_say l E a (upd (upd (upd (upd (upd (upd (upd f9 8 p9_0) 9 i9_0) 10 u9_0) 15 (nI (cnt (shB T (A9 7)) (tN T)))) 16 l9_0) 17 m9_0) 18 s9_0) ((31 : Int64) * ((31 : Int64) * ((31 : Int64) * (syL T f A hh 3) + l9_0.toInt64) + m9_0.toInt64) + ((BO9_0 0).toInt64)) (va_up (va_up (va_up A9 12 O9_0) 13 BO9_0) 14 W9_0) tl s9_0.toInt64) (List.Perm.refl _) gX11_sayTown_X11_say rfl rfl rfl hd_X11_say ⟨by decide, by decide⟩ rfl (Nat.le_of_ble_eq_true rfl) dX11_sayTown_115 ⟨Nat.le_of_ble_eq_true rfl, Nat.le_of_ble_eq_true rfl⟩ (fun v_ w_ hvw => ?_)
          rw [hvw.1, hvw.2]
          clear hvw
          refine q_at (pc' := 118) (st' := []) (ws' := mC E a (upd (upd (upd (upd (upd (upd (upd f9 8 p9_0) 9 i9_0) 10 u9_0) 15 (nI (cnt (shB T (A9 7)) (tN T)))) 16 l9_0) 17 m9_0) 18 s9_0) ((31 : Int64) * ((31 : Int64) * ((31 : Int64) * ((31 : Int64) * (syL T f A hh 3) + l9_0.toInt64) + m9_0.toInt64) + ((BO9_0 0).toInt64)) + s9_0.toInt64) (va_up (va_up (va_up A9 12 O9_0) 13 BO9_0) 14 W9_0) ++ tl) (k' := 0) (n' := 0) rfl rfl rfl rfl rfl ?_
          refine q_aload_n F 0 dX11_sayTown_118 rfl ?_
          refine q_aload_n F 0 dX11_sayTown_119 rfl ?_
          refine q_iconst F dX11_sayTown_120 (v := nI 0) (by decide) ?_
          refine q_callV F (ci := 11) (As := [.int (nI 0)]) (rest := [.ref (a 32)]) (List.mem_append_left _ (List.mem_of_getElem? (i := 0) rfl)) rfl (c_X11_guessOf l E a (upd (upd (upd (upd (upd (upd (upd f9 8 p9_0) 9 i9_0) 10 u9_0) 15 (nI (cnt (shB T (A9 7)) (tN T)))) 16 l9_0) 17 m9_0) 18 s9_0) ((31 : Int64) * ((31 : Int64) * ((31 : Int64) * ((31 : Int64) * (syL T f A hh 3) + l9_0.toInt64) + m9_0.toInt64) + ((BO9_0 0).toInt64)) + s9_0.toInt64) (va_up (va_up (va_up A9 12 O9_0) 13 BO9_0) 14 W9_0) tl T ((hkf 2 rfl).trans hm) hn (show rowsOf (A9 7) T by rw [hka 7 rfl]; exact hR) hO sk ((hkf 20 rfl).trans h20) hsk sh (show ∀ k, k < sk → A9 21 (3 * k) = nI (sh k) ∧ sh k < 6 by rw [hka 21 rfl]; exact hsh) (nI 0)) (List.Perm.refl _) gX11_sayTown_X11_guessOf rfl rfl rfl hd_X11_guessOf ⟨by decide, by decide⟩ rfl (Nat.le_of_ble_eq_true rfl) dX11_sayTown_121 ⟨Nat.le_of_ble_eq_true rfl, Nat.le_of_ble_eq_true rfl⟩ (fun v_ w_ hvw => ?_)
          obtain ⟨hv_, g1, G1, hw_, hg1, hG1⟩ := hvw
          rw [hv_, hw_]
          refine q_at (pc' := 124) (st' := [.int (if nI 0 = 0 then guC T (A9 7) (A9 21) sh sk 30 else guL T (A9 7) (A9 21) sh sk 30), .ref (a 32)]) (ws' := mC E a g1 ((31 : Int64) * ((31 : Int64) * ((31 : Int64) * ((31 : Int64) * (syL T f A hh 3) + l9_0.toInt64) + m9_0.toInt64) + ((BO9_0 0).toInt64)) + s9_0.toInt64) G1 ++ tl) (k' := 0) (n' := 0) rfl rfl rfl rfl rfl ?_
          have hkg : kpF f g1 := fun k hk => (hg1 k hk).trans ((show kpF f9 _ by repeat (first | exact kpF_r _ | refine kpF_u (by decide) ?_)) k hk |>.trans (hkf k hk))
          have hkG : kpA A G1 := fun k hk => (hG1 k hk).trans ((show kpA A9 _ by repeat (first | exact kpA_r _ | refine kpA_u (by decide) ?_)) k hk |>.trans (hka k hk))
          refine q_toi (guC T (A 7) (A 21) sh sk 30) (by rw [if_pos (show nI 0 = 0 by decide), hka 7 rfl, hka 21 rfl]) ?_
          refine q_i2l F dX11_sayTown_124 ?_
          refine q_callV F (ci := 11) (As := [.long ((guC T (A 7) (A 21) sh sk 30).toInt64)]) (rest := []) (List.mem_append_left _ (List.mem_of_getElem? (i := 0) rfl)) rfl (c_X11_say l E a g1 ((31 : Int64) * ((31 : Int64) * ((31 : Int64) * ((31 : Int64) * (syL T f A hh 3) + l9_0.toInt64) + m9_0.toInt64) + ((BO9_0 0).toInt64)) + s9_0.toInt64) G1 tl ((guC T (A 7) (A 21) sh sk 30).toInt64)) (List.Perm.refl _) gX11_sayTown_X11_say rfl rfl rfl hd_X11_say ⟨by decide, by decide⟩ rfl (Nat.le_of_ble_eq_true rfl) dX11_sayTown_125 ⟨Nat.le_of_ble_eq_true rfl, Nat.le_of_ble_eq_true rfl⟩ (fun v_ w_ hvw => ?_)
          rw [hvw.1, hvw.2]
          clear hvw
          refine q_at (pc' := 128) (st' := []) (ws' := mC E a g1 ((31 : Int64) * ((31 : Int64) * ((31 : Int64) * ((31 : Int64) * ((31 : Int64) * (syL T f A hh 3) + l9_0.toInt64) + m9_0.toInt64) + ((BO9_0 0).toInt64)) + s9_0.toInt64) + ((guC T (A 7) (A 21) sh sk 30).toInt64)) G1 ++ tl) (k' := 0) (n' := 0) rfl rfl rfl rfl rfl ?_
          refine q_aload_n F 0 dX11_sayTown_128 rfl ?_
          refine q_aload_n F 0 dX11_sayTown_129 rfl ?_
          refine q_iconst F dX11_sayTown_130 (v := nI 1) (by decide) ?_
          refine q_callV F (ci := 11) (As := [.int (nI 1)]) (rest := [.ref (a 32)]) (List.mem_append_left _ (List.mem_of_getElem? (i := 0) rfl)) rfl (c_X11_guessOf l E a g1 ((31 : Int64) * ((31 : Int64) * ((31 : Int64) * ((31 : Int64) * ((31 : Int64) * (syL T f A hh 3) + l9_0.toInt64) + m9_0.toInt64) + ((BO9_0 0).toInt64)) + s9_0.toInt64) + ((guC T (A 7) (A 21) sh sk 30).toInt64)) G1 tl T ((hkg 2 rfl).trans hm) hn (show rowsOf (G1 7) T by rw [hkG 7 rfl]; exact hR) hO sk ((hkg 20 rfl).trans h20) hsk sh (show ∀ k, k < sk → G1 21 (3 * k) = nI (sh k) ∧ sh k < 6 by rw [hkG 21 rfl]; exact hsh) (nI 1)) (List.Perm.refl _) gX11_sayTown_X11_guessOf rfl rfl rfl hd_X11_guessOf ⟨by decide, by decide⟩ rfl (Nat.le_of_ble_eq_true rfl) dX11_sayTown_131 ⟨Nat.le_of_ble_eq_true rfl, Nat.le_of_ble_eq_true rfl⟩ (fun v_ w_ hvw => ?_)
          obtain ⟨hv_, g2, G2, hw_, hg2, hG2⟩ := hvw
          rw [hv_, hw_]
          refine q_at (pc' := 134) (st' := [.int (if nI 1 = 0 then guC T (G1 7) (G1 21) sh sk 30 else guL T (G1 7) (G1 21) sh sk 30), .ref (a 32)]) (ws' := mC E a g2 ((31 : Int64) * ((31 : Int64) * ((31 : Int64) * ((31 : Int64) * ((31 : Int64) * (syL T f A hh 3) + l9_0.toInt64) + m9_0.toInt64) + ((BO9_0 0).toInt64)) + s9_0.toInt64) + ((guC T (A 7) (A 21) sh sk 30).toInt64)) G2 ++ tl) (k' := 0) (n' := 0) rfl rfl rfl rfl rfl ?_
          refine q_toi (guL T (A 7) (A 21) sh sk 30) (by rw [if_neg (by decide), hkG 7 rfl, hkG 21 rfl]) ?_
          refine q_i2l F dX11_sayTown_134 ?_
          refine q_callV F (ci := 11) (As := [.long ((guL T (A 7) (A 21) sh sk 30).toInt64)]) (rest := []) (List.mem_append_left _ (List.mem_of_getElem? (i := 0) rfl)) rfl (c_X11_say l E a g2 ((31 : Int64) * ((31 : Int64) * ((31 : Int64) * ((31 : Int64) * ((31 : Int64) * (syL T f A hh 3) + l9_0.toInt64) + m9_0.toInt64) + ((BO9_0 0).toInt64)) + s9_0.toInt64) + ((guC T (A 7) (A 21) sh sk 30).toInt64)) G2 tl ((guL T (A 7) (A 21) sh sk 30).toInt64)) (List.Perm.refl _) gX11_sayTown_X11_say rfl rfl rfl hd_X11_say ⟨by decide, by decide⟩ rfl (Nat.le_of_ble_eq_true rfl) dX11_sayTown_135 ⟨Nat.le_of_ble_eq_true rfl, Nat.le_of_ble_eq_true rfl⟩ (fun v_ w_ hvw => ?_)
          rw [hvw.1, hvw.2]
          clear hvw
          refine q_at (pc' := 138) (st' := []) (ws' := mC E a g2 ((31 : Int64) * ((31 : Int64) * ((31 : Int64) * ((31 : Int64) * ((31 : Int64) * ((31 : Int64) * (syL T f A hh 3) + l9_0.toInt64) + m9_0.toInt64) + ((BO9_0 0).toInt64)) + s9_0.toInt64) + ((guC T (A 7) (A 21) sh sk 30).toInt64)) + ((guL T (A 7) (A 21) sh sk 30).toInt64)) G2 ++ tl) (k' := 0) (n' := 0) rfl rfl rfl rfl rfl ?_
          refine q_vret F hr_ dX11_sayTown_138 (hp_ _ _ ⟨rfl, g2, G2, ?_, fun k hk => (hg2 k hk).trans (hkg k hk), fun k hk => (hG2 k hk).trans (hkG k hk)⟩)
          have hacc := hl2_0; rw [hkf 5 rfl, hka 7 rfl, hkf 3 rfl, hkf 4 rfl] at hacc
          rw [← hacc] at hne
          rw [← hacc]
          rw [hka 7 rfl] at hn_90 hbo_0; rw [syE, if_pos (by omega)]; rcases hbo_0 with z | z; (exact absurd z hne); rw [z 0 (by omega)]; rfl
      · skip
        have hn_4 : l_ < 3 := nf_ge_f (by omega) (by omega) h_4
        refine q_aload_n F 0 dX11_sayTown_7 rfl ?_
        refine q_callV F (ci := 11) (As := []) (rest := []) (List.mem_append_left _ (List.mem_of_getElem? (i := 0) rfl)) rfl (c_X11_asItIs l E a f9 (syL T f A hh l_) A9 tl ) (List.Perm.refl _) gX11_sayTown_X11_asItIs rfl rfl rfl hd_X11_asItIs ⟨by decide, by decide⟩ rfl (Nat.le_of_ble_eq_true rfl) dX11_sayTown_8 ⟨Nat.le_of_ble_eq_true rfl, Nat.le_of_ble_eq_true rfl⟩ (fun v_ w_ hvw => ?_)
        rw [hvw.1, hvw.2]
        clear hvw
        refine q_at (pc' := 11) (st' := []) (ws' := mC E a (upd (upd (upd f9 8 (f9 3)) 9 (f9 5)) 10 (f9 4)) (syL T f A hh l_) A9 ++ tl) (k' := 0) (n' := 0) rfl rfl rfl rfl rfl ?_
        refine q_aload_n F 0 dX11_sayTown_11 rfl ?_
        refine q_aload_n F 0 dX11_sayTown_12 rfl ?_
        refine q_aload_n F 0 dX11_sayTown_13 rfl ?_
        refine q_callV F (ci := 11) (As := []) (rest := [.ref (a 32), .ref (a 32)]) (List.mem_append_left _ (List.mem_of_getElem? (i := 0) rfl)) rfl (c_X11_shutBits l E a (upd (upd (upd f9 8 (f9 3)) 9 (f9 5)) 10 (f9 4)) (syL T f A hh l_) A9 tl T ((hkf 2 rfl).trans hm) hn ) (List.Perm.refl _) gX11_sayTown_X11_shutBits rfl rfl rfl hd_X11_shutBits ⟨by decide, by decide⟩ rfl (Nat.le_of_ble_eq_true rfl) dX11_sayTown_14 ⟨Nat.le_of_ble_eq_true rfl, Nat.le_of_ble_eq_true rfl⟩ (fun v_ w_ hvw => ?_)
        rw [hvw.1, hvw.2]
        clear hvw
        refine q_at (pc' := 17) (st' := [.int (wb (shB T (A9 7)) 6), .ref (a 32), .ref (a 32)]) (ws' := mC E a (upd (upd (upd f9 8 (f9 3)) 9 (f9 5)) 10 (f9 4)) (syL T f A hh l_) A9 ++ tl) (k' := 0) (n' := 0) rfl rfl rfl rfl rfl ?_
        refine q_iload_n F 1 dX11_sayTown_17 rfl ?_
        refine q_callV F (ci := 11) (As := [.int (wb (shB T (A9 7)) 6), .int (nI l_)]) (rest := [.ref (a 32)]) (List.mem_append_left _ (List.mem_of_getElem? (i := 0) rfl)) rfl (c_X11_nextOf l E a (upd (upd (upd f9 8 (f9 3)) 9 (f9 5)) 10 (f9 4)) (syL T f A hh l_) A9 tl T ((hkf 2 rfl).trans hm) hn (show rowsOf (A9 7) T by rw [hka 7 rfl]; exact hR) hO (wb (shB T (A9 7)) 6) l_ (by omega) (show okP (f9 3) by rw [hkf 3 rfl]; exact hp3)) (List.Perm.refl _) gX11_sayTown_X11_nextOf rfl rfl rfl hd_X11_nextOf ⟨by decide, by decide⟩ rfl (Nat.le_of_ble_eq_true rfl) dX11_sayTown_18 ⟨Nat.le_of_ble_eq_true rfl, Nat.le_of_ble_eq_true rfl⟩ (fun v_ w_ hvw => ?_)
        rw [hvw.1, hvw.2]
        clear hvw
        refine q_at (pc' := 21) (st' := [.int ((nxR (myM T (wb (shB T (A9 7)) 6)) (rkF T l_ (sF (A9 7)) (f9 3)) (tN T)).1), .ref (a 32)]) (ws' := mC E a (upd (upd (upd f9 8 (f9 3)) 9 (f9 5)) 10 (f9 4)) (syL T f A hh l_) A9 ++ tl) (k' := 0) (n' := 0) rfl rfl rfl rfl rfl ?_
        refine q_toi (nxS T l_ (sF (A 7)) (shB T (A 7)) (f 3)) (by rw [hka 7 rfl, hkf 3 rfl]; rfl) ?_
        refine q_i2l F dX11_sayTown_21 ?_
        refine q_callV F (ci := 11) (As := [.long ((nxS T l_ (sF (A 7)) (shB T (A 7)) (f 3)).toInt64)]) (rest := []) (List.mem_append_left _ (List.mem_of_getElem? (i := 0) rfl)) rfl (c_X11_say l E a (upd (upd (upd f9 8 (f9 3)) 9 (f9 5)) 10 (f9 4)) (syL T f A hh l_) A9 tl ((nxS T l_ (sF (A 7)) (shB T (A 7)) (f 3)).toInt64)) (List.Perm.refl _) gX11_sayTown_X11_say rfl rfl rfl hd_X11_say ⟨by decide, by decide⟩ rfl (Nat.le_of_ble_eq_true rfl) dX11_sayTown_22 ⟨Nat.le_of_ble_eq_true rfl, Nat.le_of_ble_eq_true rfl⟩ (fun v_ w_ hvw => ?_)
        rw [hvw.1, hvw.2]
        clear hvw
        refine q_at (pc' := 25) (st' := []) (ws' := mC E a (upd (upd (upd f9 8 (f9 3)) 9 (f9 5)) 10 (f9 4)) ((31 : Int64) * (syL T f A hh l_) + ((nxS T l_ (sF (A 7)) (shB T (A 7)) (f 3)).toInt64)) A9 ++ tl) (k' := 0) (n' := 0) rfl rfl rfl rfl rfl ?_
        refine q_iconst F dX11_sayTown_25 (v := nI 0) (by decide) ?_
        refine q_istore_n F (lv' := [(2, .int (nI 0)), (0, .ref (a 32)), (1, .int (nI l_))]) dX11_sayTown_26 (by decide) rfl ?_
        have lb27 : ∀ (fu : Nat) (j : Nat) (f8 : Nat → Int32) (A8 : Nat → Nat → Int32) (hj : j ≤ 3) (hkf8 : kpF f f8) (hka8 : kpA A A8), 3 - j < fu → gW p_ l e_ (rmL 5 0 0) s_ m_ args_ below_ meth_ c_ E A_ 3 (MQ below_ (gQ E A_ P_) args_ s_ 0 0 A_) 27 [(0, .ref (a 32)), (1, .int (nI l_)), (2, .int (nI j))] [] (mC E a f8 (syB T f A l_ (sy (syL T f A hh l_) (nxS T l_ (sF (A 7)) (shB T (A 7)) (f 3))) j) A8 ++ tl) 0 0 := by
          intro fu_27
          induction fu_27 with
          | zero => intro j f8 A8 hj hkf8 hka8 hfu; exact absurd hfu (Nat.not_lt_zero _)
          | succ fu_27 ih_27 =>
            intro j f8 A8 hj hkf8 hka8 hfu_27
            refine q_iload_n F 2 dX11_sayTown_27 rfl ?_
            refine q_iconst F dX11_sayTown_28 (v := nI 3) (by decide) ?_
            refine q_icmp_ge F (tgt := 49) dX11_sayTown_29 (by decide) (fun h_29 => ?_) (fun h_29 => ?_)
            · skip
              have hn_29 : j ≥ 3 := nf_ge_t (by omega) (by omega) h_29
              obtain rfl : j = 3 := by omega
              refine q_iinc F 1 (v := nI (l_ + 1)) (lv' := [(1, .int (nI (l_ + 1))), (0, .ref (a 32)), (2, .int (nI 3))]) dX11_sayTown_49 rfl (nI_1 _) (by decide) rfl ?_
              refine q_goto F (tgt := 2) dX11_sayTown_52 (by decide) ?_
              refine q_lv [1, 0] (lv' := [(0, .ref (a 32)), (1, .int (nI (l_ + 1)))]) rfl ?_
              refine q_to (lv' := [(0, .ref (a 32)), (1, .int (nI (l_ + 1)))]) (st' := []) (ws' := mC E a f8 (syL T f A hh (l_ + 1)) A8 ++ tl) rfl rfl (by rfl) ?_
              exact ih_2 (l_ + 1) f8 A8 (by omega) (hkf8) (hka8) (by omega)
            · skip
              have hn_29 : j < 3 := nf_ge_f (by omega) (by omega) h_29
              refine q_aload_n F 0 dX11_sayTown_32 rfl ?_
              refine q_aload_n F 0 dX11_sayTown_33 rfl ?_
              refine q_iload_n F 1 dX11_sayTown_34 rfl ?_
              refine q_iload_n F 2 dX11_sayTown_35 rfl ?_
              refine q_callV F (ci := 11) (As := [.int (nI l_), .int (nI j)]) (rest := [.ref (a 32)]) (List.mem_append_left _ (List.mem_of_getElem? (i := 0) rfl)) rfl (c_X11_byOf l E a f8 (syB T f A l_ (sy (syL T f A hh l_) (nxS T l_ (sF (A 7)) (shB T (A 7)) (f 3))) j) A8 tl T ((hkf8 2 rfl).trans hm) hn (by rw [hka8 7 rfl]; exact hR) hO (by rw [hkf8 3 rfl]; exact hp3) l_ (by omega) (nI j)) (List.Perm.refl _) gX11_sayTown_X11_byOf rfl rfl rfl hd_X11_byOf ⟨by decide, by decide⟩ rfl (Nat.le_of_ble_eq_true rfl) dX11_sayTown_36 ⟨Nat.le_of_ble_eq_true rfl, Nat.le_of_ble_eq_true rfl⟩ (fun v_ w_ hvw => ?_)
              obtain ⟨hv_, f1, A1, hw_, hkf1, hka1⟩ := hvw
              rw [hv_, hw_]
              refine q_at (pc' := 39) (st' := [.int (byV (byG T f8 A8 l_) (nI j)), .ref (a 32)]) (ws' := mC E a f1 (syB T f A l_ (sy (syL T f A hh l_) (nxS T l_ (sF (A 7)) (shB T (A 7)) (f 3))) j) A1 ++ tl) (k' := 0) (n' := 0) rfl rfl rfl rfl rfl ?_
              refine q_toi (byV (byG T f A l_) (nI j)) (by rw [byG, byG, hka8 7 rfl, hkf8 3 rfl, hkf8 5 rfl, hkf8 4 rfl]) ?_
              refine q_i2l F dX11_sayTown_39 ?_
              refine q_callV F (ci := 11) (As := [.long ((byV (byG T f A l_) (nI j)).toInt64)]) (rest := []) (List.mem_append_left _ (List.mem_of_getElem? (i := 0) rfl)) rfl (c_X11_say l E a f1 (syB T f A l_ (sy (syL T f A hh l_) (nxS T l_ (sF (A 7)) (shB T (A 7)) (f 3))) j) A1 tl ((byV (byG T f A l_) (nI j)).toInt64)) (List.Perm.refl _) gX11_sayTown_X11_say rfl rfl rfl hd_X11_say ⟨by decide, by decide⟩ rfl (Nat.le_of_ble_eq_true rfl) dX11_sayTown_40 ⟨Nat.le_of_ble_eq_true rfl, Nat.le_of_ble_eq_true rfl⟩ (fun v_ w_ hvw => ?_)
              rw [hvw.1, hvw.2]
              clear hvw
              refine q_at (pc' := 43) (st' := []) (ws' := mC E a f1 ((31 : Int64) * (syB T f A l_ (sy (syL T f A hh l_) (nxS T l_ (sF (A 7)) (shB T (A 7)) (f 3))) j) + ((byV (byG T f A l_) (nI j)).toInt64)) A1 ++ tl) (k' := 0) (n' := 0) rfl rfl rfl rfl rfl ?_
              refine q_iinc F 2 (v := nI (j + 1)) (lv' := [(2, .int (nI (j + 1))), (0, .ref (a 32)), (1, .int (nI l_))]) dX11_sayTown_43 rfl (nI_1 _) (by decide) rfl ?_
              refine q_goto F (tgt := 27) dX11_sayTown_46 (by decide) ?_
              refine q_lv [1, 2, 0] (lv' := [(0, .ref (a 32)), (1, .int (nI l_)), (2, .int (nI (j + 1)))]) rfl ?_
              refine q_to (lv' := [(0, .ref (a 32)), (1, .int (nI l_)), (2, .int (nI (j + 1)))]) (st' := []) (ws' := mC E a f1 (syB T f A l_ (sy (syL T f A hh l_) (nxS T l_ (sF (A 7)) (shB T (A 7)) (f 3))) (j + 1)) A1 ++ tl) rfl rfl (by rfl) ?_
              exact ih_27 (j + 1) f1 A1 (by omega) (fun k hk => (hkf1 k hk).trans (hkf8 k hk)) (fun k hk => (hka1 k hk).trans (hka8 k hk)) (by omega)
        refine q_lv [1, 2, 0] (lv' := [(0, .ref (a 32)), (1, .int (nI l_)), (2, .int (nI 0))]) rfl ?_
        refine q_to (lv' := [(0, .ref (a 32)), (1, .int (nI l_)), (2, .int (nI 0))]) (st' := []) (ws' := mC E a (upd (upd (upd f9 8 (f9 3)) 9 (f9 5)) 10 (f9 4)) (syB T f A l_ (sy (syL T f A hh l_) (nxS T l_ (sF (A 7)) (shB T (A 7)) (f 3))) 0) A9 ++ tl) rfl rfl (by rfl) ?_
        exact lb27 (3 - 0 + 1) 0 (upd (upd (upd f9 8 (f9 3)) 9 (f9 5)) 10 (f9 4)) A9 (by omega) (by repeat (first | exact hkf | refine kpF_u (by decide) ?_)) (hka) (Nat.lt_succ_self _)
  refine q_lv [1, 0] (lv' := [(0, .ref (a 32)), (1, .int (nI 0))]) rfl ?_
  refine q_to (lv' := [(0, .ref (a 32)), (1, .int (nI 0))]) (st' := []) (ws' := mC E a f (syL T f A hh 0) A ++ tl) rfl rfl (by rfl) ?_
  exact lb2 (3 - 0 + 1) 0 f A (by omega) (kpF_r _) (kpA_r _) (Nat.lt_succ_self _)
