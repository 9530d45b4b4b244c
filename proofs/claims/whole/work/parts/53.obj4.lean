set_option maxHeartbeats 4000000 in
set_option maxRecDepth 100000 in
theorem c_X10_withWhatWouldBe (l : Launch) (E : gEnv) (x : Nat) (q t a k u r kd : Nat → Nat) (T : gTown) (g : Nat → Int32) (n : Nat) (pf : Nat → Int32) (sk : Nat) (hk6 : sk ≤ 6) (B : Nat → Nat → Int32) (kp km ku : Int32) (sn1 : Int32) (B1 : Nat → Nat → Int32) (kp1 km1 ku1 : Int32) (sn2 : Int32) (B2 : Nat → Nat → Int32) (kp2 km2 ku2 : Int32) (rg O BO P M U : Nat → Int32) (tl : va_W) (hH : isHs T tl) (hn : tN T ≤ 6) (hq : n ≤ 30) (hz : okZ (B 8)) (hB : okN T (B 2)) (h0 : Int64) : Cn l E yX10_withWhatWouldBe wsX10_withWhatWouldBe (rmL 21 0 0) [.ref x, .long h0] (oC x (q 0) (t 0) (a 0) (k 0) (u 0) (r 0) g ++ (pC E q n pf ++ (tC E t T ++ (nC E a (t 0) (nI sk) B ++ (kC (a 1) kp km ku ++ (nC E k (t 0) sn1 B1 ++ (kC (k 1) kp1 km1 ku1 ++ (nC E u (t 0) sn2 B2 ++ (kC (u 1) kp2 km2 ku2 ++ (rC E r (t 0) kd rg O BO ++ (ksC kd P M U ++ tl))))))))))) 0 0 (fun v w => v = some (.long (wyE T (B, kp, km, ku) sk (dfC T true true 7 (shN (B 2)) kp km ku (nI 0) 0 O (ac0 BO)) h0)) ∧ ∃ (z1 : Int32) (z2 : Nat → Nat → Int32) (z3 z4 z5 : Int32) (r1 r2 r3 r4 r5 r6 : Nat → Int32), w = oC x (q 0) (t 0) (a 0) (k 0) (u 0) (r 0) (upd (upd g 9 (gsC T B sk 30).1) 10 (gsC T B sk 30).2) ++ (pC E q n pf ++ (tC E t T ++ (nC E a (t 0) (nI sk) B ++ (kC (a 1) kp km ku ++ (nC E k (t 0) sn1 B1 ++ (kC (k 1) kp1 km1 ku1 ++ (nC E u (t 0) z1 z2 ++ (kC (u 1) z3 z4 z5 ++ (rC E r (t 0) kd r1 r2 r3 ++ (ksC kd r4 r5 r6 ++ tl))))))))))) := by
  refine Cn.of (own := RX10) (cc := cX10_withWhatWouldBe) (maxL := 7) (ret := (some .long)) (lv := [(0, .ref x), (1, .long h0)]) (by decide) rfl rfl (Nat.le_of_ble_eq_true rfl) rfl ?_
  intro p_ e_ s_ m_ args_ below_ meth_ c_ A_ P_ hp_ F hr_ hnm_
  have hf43_10 : Cond.fieldLink RX10 43 "KeyOnStreet" (TX10 5).2.1 (TX10 5).2.2.1 ∈ wsX10_withWhatWouldBe := by decide +kernel
  have hi10 : ∀ w ∈ u_ws RX10 TX10 11, w ∈ wsX10_withWhatWouldBe := by decide +kernel
  have hf30_10 : Cond.fieldLink RX10 30 "KeyOnStreet" (TX10 2).2.1 (TX10 2).2.2.1 ∈ wsX10_withWhatWouldBe := by decide +kernel
  have hf102_5 : Cond.fieldLink RX10 102 "KeyOnStreet$Night" (TX5 1).2.1 (TX5 1).2.2.1 ∈ wsX10_withWhatWouldBe := by decide +kernel
  have hi5 : ∀ w ∈ u_ws RX5 TX5 10, w ∈ wsX10_withWhatWouldBe := by decide +kernel
  have hf114_2 : Cond.fieldLink RX10 114 "KeyOnStreet$Key" (TX2 0).2.1 (TX2 0).2.2.1 ∈ wsX10_withWhatWouldBe := by decide +kernel
  have hi2 : ∀ w ∈ u_ws RX2 TX2 3, w ∈ wsX10_withWhatWouldBe := by decide +kernel
  have hd_X7_seekBest : yX7_seekBest.cls = RX7 ∧ yX7_seekBest.cls ≠ "java/lang/invoke/MethodHandle" ∧ yX7_seekBest.cls ≠ "java/lang/invoke/VarHandle" ∧ (parseMethodDescriptor yX7_seekBest.desc).map (fun d => d.parameters.length) = some 2 := by decide +kernel
  have hk202 : Cond.constantLong RX10 202 (31) ∈ wsX10_withWhatWouldBe := by decide +kernel
  have hd_X10_toldOfBest : yX10_toldOfBest.cls = RX10 ∧ yX10_toldOfBest.cls ≠ "java/lang/invoke/MethodHandle" ∧ yX10_toldOfBest.cls ≠ "java/lang/invoke/VarHandle" ∧ (parseMethodDescriptor yX10_toldOfBest.desc).map (fun d => d.parameters.length) = some 1 := by decide +kernel
  have hd_X7_seekShortest : yX7_seekShortest.cls = RX7 ∧ yX7_seekShortest.cls ≠ "java/lang/invoke/MethodHandle" ∧ yX7_seekShortest.cls ≠ "java/lang/invoke/VarHandle" ∧ (parseMethodDescriptor yX7_seekShortest.desc).map (fun d => d.parameters.length) = some 1 := by decide +kernel
  have hd_X10_seekGuesses : yX10_seekGuesses.cls = RX10 ∧ yX10_seekGuesses.cls ≠ "java/lang/invoke/MethodHandle" ∧ yX10_seekGuesses.cls ≠ "java/lang/invoke/VarHandle" ∧ (parseMethodDescriptor yX10_seekGuesses.desc).map (fun d => d.parameters.length) = some 0 := by decide +kernel
  have hf175_10 : Cond.fieldLink RX10 175 "KeyOnStreet" (TX10 9).2.1 (TX10 9).2.2.1 ∈ wsX10_withWhatWouldBe := by decide +kernel
  have hf178_10 : Cond.fieldLink RX10 178 "KeyOnStreet" (TX10 10).2.1 (TX10 10).2.2.1 ∈ wsX10_withWhatWouldBe := by decide +kernel
  have hd_X5_nextBy : yX5_nextBy.cls = RX5 ∧ yX5_nextBy.cls ≠ "java/lang/invoke/MethodHandle" ∧ yX5_nextBy.cls ≠ "java/lang/invoke/VarHandle" ∧ (parseMethodDescriptor yX5_nextBy.desc).map (fun d => d.parameters.length) = some 1 := by decide +kernel
  have hd_X10_goBy : yX10_goBy.cls = RX10 ∧ yX10_goBy.cls ≠ "java/lang/invoke/MethodHandle" ∧ yX10_goBy.cls ≠ "java/lang/invoke/VarHandle" ∧ (parseMethodDescriptor yX10_goBy.desc).map (fun d => d.parameters.length) = some 1 := by decide +kernel
  have hd_X10_toldByLaw : yX10_toldByLaw.cls = RX10 ∧ yX10_toldByLaw.cls ≠ "java/lang/invoke/MethodHandle" ∧ yX10_toldByLaw.cls ≠ "java/lang/invoke/VarHandle" ∧ (parseMethodDescriptor yX10_toldByLaw.desc).map (fun d => d.parameters.length) = some 1 := by decide +kernel
  refine q_lload_n F 1 dX10_withWhatWouldBe_0 rfl ?_
  refine q_lstore_n F (lv' := [(3, .long h0), (0, .ref x), (1, .long h0)]) dX10_withWhatWouldBe_1 (by decide) rfl ?_
  refine q_iconst F dX10_withWhatWouldBe_2 (v := nI 0) (by decide) ?_
  refine q_istore F (lv' := [(5, .int (nI 0)), (3, .long h0), (0, .ref x), (1, .long h0)]) dX10_withWhatWouldBe_3 (by decide) rfl ?_
  have lb5 : ∀ (fu : Nat) (l_ : Nat) (sn9 : Int32) (B9 : Nat → Nat → Int32) (kp9 : Int32) (km9 : Int32) (ku9 : Int32) (hl_ : l_ ≤ 3), 3 - l_ < fu → gW p_ l e_ (rmL 21 0 0) s_ m_ args_ below_ meth_ c_ E A_ 7 (MQ below_ (gQ E A_ P_) args_ s_ 0 0 A_) 5 [(0, .ref x), (3, .long (wyL T (B, kp, km, ku) h0 l_)), (5, .int (nI l_))] [] (oC x (q 0) (t 0) (a 0) (k 0) (u 0) (r 0) g ++ (pC E q n pf ++ (tC E t T ++ (nC E a (t 0) (nI sk) B ++ (kC (a 1) kp km ku ++ (nC E k (t 0) sn1 B1 ++ (kC (k 1) kp1 km1 ku1 ++ (nC E u (t 0) sn9 B9 ++ (kC (u 1) kp9 km9 ku9 ++ (rC E r (t 0) kd rg O BO ++ (ksC kd P M U ++ tl))))))))))) 0 0 := by
    intro fu_5
    induction fu_5 with
    | zero => intro l_ sn9 B9 kp9 km9 ku9 hl_ hfu; exact absurd hfu (Nat.not_lt_zero _)
    | succ fu_5 ih_5 =>
      intro l_ sn9 B9 kp9 km9 ku9 hl_ hfu_5
      refine q_iload F 2 dX10_withWhatWouldBe_5 rfl ?_
      refine q_iconst F dX10_withWhatWouldBe_7 (v := nI 3) (by decide) ?_
      refine q_icmp_ge F (tgt := 69) dX10_withWhatWouldBe_8 (by decide) (fun h_8 => ?_) (fun h_8 => ?_)
      · skip
        have hn_8 : l_ ≥ 3 := nf_ge_t (by omega) (by omega) h_8
        obtain rfl : l_ = 3 := by omega
        refine q_aload_n F 0 dX10_withWhatWouldBe_69 rfl ?_
        refine q_get F (ci := 10) (j := 5) (v := .ref (r 0)) (List.mem_append_left _ (List.mem_of_getElem? (i := 0) rfl)) rfl hi10 (by decide) hf43_10 rfl rfl dX10_withWhatWouldBe_70 ?_
        refine q_aload_n F 0 dX10_withWhatWouldBe_73 rfl ?_
        refine q_get F (ci := 10) (j := 2) (v := .ref (a 0)) (List.mem_append_left _ (List.mem_of_getElem? (i := 0) rfl)) rfl hi10 (by decide) hf30_10 rfl rfl dX10_withWhatWouldBe_74 ?_
        refine q_aload_n F 0 dX10_withWhatWouldBe_77 rfl ?_
        refine q_get F (ci := 10) (j := 2) (v := .ref (a 0)) (List.mem_append_left _ (List.mem_of_getElem? (i := 0) rfl)) rfl hi10 (by decide) hf30_10 rfl rfl dX10_withWhatWouldBe_78 ?_
        refine q_get F (ci := 5) (j := 1) (v := .ref (a 1)) (List.mem_append_right _ (List.mem_append_right _ (List.mem_append_right _ (List.mem_append_left _ (List.mem_of_getElem? (i := 0) rfl))))) rfl hi5 (by decide) hf102_5 rfl rfl dX10_withWhatWouldBe_81 ?_
        refine q_get F (ci := 2) (j := 0) (v := .int kp) (List.mem_append_right _ (List.mem_append_right _ (List.mem_append_right _ (List.mem_append_right _ (List.mem_append_left _ (List.mem_of_getElem? (i := 0) rfl)))))) rfl hi2 (by decide) hf114_2 rfl rfl dX10_withWhatWouldBe_84 ?_
        refine q_perm pf10 ?_
        refine q_perm pf10 ?_
        refine q_callV F (ci := 7) (As := [.ref (a 0), .int kp]) (rest := []) (List.mem_append_left _ (List.mem_of_getElem? (i := 0) rfl)) rfl (c_X7_seekBest l E r t kd a T rg O BO P M U (nI sk) B kp km ku (oC x (q 0) (t 0) (a 0) (k 0) (u 0) (r 0) g ++ (pC E q n pf ++ (tC E t T ++ (nC E a (t 0) (nI sk) B ++ (kC (a 1) kp km ku ++ (nC E k (t 0) sn1 B1 ++ (kC (k 1) kp1 km1 ku1 ++ (nC E u (t 0) sn9 B9 ++ (kC (u 1) kp9 km9 ku9 ++ tl))))))))) (isIn.r _ (isIn.r _ (isIn.l _ _))) (isHs.r _ (isHs.r _ (isHs.r _ (isHs.r _ (isHs.r _ (isHs.r _ (isHs.r _ (isHs.r _ (isHs.r _ hH))))))))) hn (isIn.r _ (isIn.r _ (isIn.r _ (isIn.l _ _)))) (isIn.r _ (isIn.r _ (isIn.r _ (isIn.r _ (isIn.l _ _))))) hB kp) (List.Perm.refl _) gX10_withWhatWouldBe_X7_seekBest rfl rfl rfl hd_X7_seekBest ⟨by decide, by decide⟩ rfl (Nat.le_of_ble_eq_true rfl) dX10_withWhatWouldBe_87 ⟨Nat.le_of_ble_eq_true rfl, Nat.le_of_ble_eq_true rfl⟩ (fun v_ w_ hvw => ?_)
        obtain ⟨hv_, g8_0, O8_0, BO8_0, P8_0, M8_0, U8_0, hw_, ha8_0, h58_0, h68_0⟩ := hvw
        rw [hv_, hw_]
        clear hv_ hw_
        refine q_at (pc' := 90) (st' := []) (ws' := rC E r (t 0) kd g8_0 O8_0 BO8_0 ++ (ksC kd P8_0 M8_0 U8_0 ++ (oC x (q 0) (t 0) (a 0) (k 0) (u 0) (r 0) g ++ (pC E q n pf ++ (tC E t T ++ (nC E a (t 0) (nI sk) B ++ (kC (a 1) kp km ku ++ (nC E k (t 0) sn1 B1 ++ (kC (k 1) kp1 km1 ku1 ++ (nC E u (t 0) sn9 B9 ++ (kC (u 1) kp9 km9 ku9 ++ tl))))))))))) (k' := 0) (n' := 0) rfl rfl rfl rfl rfl ?_
        refine q_ldc2 F hk202 dX10_withWhatWouldBe_90 ?_
        refine q_lload_n F 1 dX10_withWhatWouldBe_93 rfl ?_
        refine q_lmul F dX10_withWhatWouldBe_94 ?_
        refine q_aload_n F 0 dX10_withWhatWouldBe_95 rfl ?_
        refine q_iconst F dX10_withWhatWouldBe_96 (v := nI 0) (by decide) ?_
        refine q_perm pf1 ?_
        refine q_perm pf1 ?_
        refine q_perm pf10 ?_
        refine q_perm pf10 ?_
        refine q_perm pf10 ?_
        refine q_perm pf10 ?_
        refine q_perm pf10 ?_
        refine q_perm pf10 ?_
        refine q_perm pf10 ?_
        refine q_perm pf10 ?_
        refine q_perm pf10 ?_
        refine q_callV F (ci := 10) (As := [.int (nI 0)]) (rest := [.long ((31 : Int64) * (wyL T (B, kp, km, ku) h0 3))]) (List.mem_append_left _ (List.mem_of_getElem? (i := 0) rfl)) rfl (c_X10_toldOfBest l E x q t a k u r kd T g n pf (nI sk) B kp km ku sn1 B1 kp1 km1 ku1 sn9 B9 kp9 km9 ku9 g8_0 O8_0 BO8_0 P8_0 M8_0 U8_0 tl hH hn hq 0 (Or.inl rfl)) (List.Perm.refl _) gX10_withWhatWouldBe_X10_toldOfBest rfl rfl rfl hd_X10_toldOfBest ⟨by decide, by decide⟩ rfl (Nat.le_of_ble_eq_true rfl) dX10_withWhatWouldBe_97 ⟨Nat.le_of_ble_eq_true rfl, Nat.le_of_ble_eq_true rfl⟩ (fun v_ w_ hvw => ?_)
        rw [hvw.1, hvw.2]
        clear hvw
        refine q_at (pc' := 100) (st' := [.int (bsC (g8_0 7, g8_0 8, g8_0 4, BO8_0) 0), .long ((31 : Int64) * (wyL T (B, kp, km, ku) h0 3))]) (ws' := oC x (q 0) (t 0) (a 0) (k 0) (u 0) (r 0) g ++ (pC E q n pf ++ (tC E t T ++ (nC E a (t 0) (nI sk) B ++ (kC (a 1) kp km ku ++ (nC E k (t 0) sn1 B1 ++ (kC (k 1) kp1 km1 ku1 ++ (nC E u (t 0) sn9 B9 ++ (kC (u 1) kp9 km9 ku9 ++ (rC E r (t 0) kd g8_0 O8_0 BO8_0 ++ (ksC kd P8_0 M8_0 U8_0 ++ tl))))))))))) (k' := 0) (n' := 0) rfl rfl rfl rfl rfl ?_
        refine q_toi (bsC (dfC T true true 7 (shN (B 2)) kp km ku (nI 0) 0 O (ac0 BO)) 0) (by rw [ha8_0]) ?_
        refine q_i2l F dX10_withWhatWouldBe_100 ?_
        refine q_ladd F dX10_withWhatWouldBe_101 ?_
        refine q_eq (st' := [.long (sy (wyL T (B, kp, km, ku) h0 3) (bsC (dfC T true true 7 (shN (B 2)) kp km ku (nI 0) 0 O (ac0 BO)) 0))]) rfl ?_
        refine q_lstore_n F (lv' := [(3, .long (sy (wyL T (B, kp, km, ku) h0 3) (bsC (dfC T true true 7 (shN (B 2)) kp km ku (nI 0) 0 O (ac0 BO)) 0))), (0, .ref x), (5, .int (nI 3))]) dX10_withWhatWouldBe_102 (by decide) rfl ?_
        refine q_ldc2 F hk202 dX10_withWhatWouldBe_103 ?_
        refine q_lload_n F 0 dX10_withWhatWouldBe_106 rfl ?_
        refine q_lmul F dX10_withWhatWouldBe_107 ?_
        refine q_aload_n F 1 dX10_withWhatWouldBe_108 rfl ?_
        refine q_iconst F dX10_withWhatWouldBe_109 (v := nI 1) (by decide) ?_
        refine q_perm pf10 ?_
        refine q_perm pf10 ?_
        refine q_perm pf10 ?_
        refine q_perm pf10 ?_
        refine q_perm pf10 ?_
        refine q_perm pf10 ?_
        refine q_perm pf10 ?_
        refine q_perm pf10 ?_
        refine q_perm pf10 ?_
        refine q_perm pf10 ?_
        refine q_perm pf10 ?_
        refine q_callV F (ci := 10) (As := [.int (nI 1)]) (rest := [.long ((31 : Int64) * (sy (wyL T (B, kp, km, ku) h0 3) (bsC (dfC T true true 7 (shN (B 2)) kp km ku (nI 0) 0 O (ac0 BO)) 0)))]) (List.mem_append_left _ (List.mem_of_getElem? (i := 0) rfl)) rfl (c_X10_toldOfBest l E x q t a k u r kd T g n pf (nI sk) B kp km ku sn1 B1 kp1 km1 ku1 sn9 B9 kp9 km9 ku9 g8_0 O8_0 BO8_0 P8_0 M8_0 U8_0 tl hH hn hq 1 (Or.inr (Or.inl rfl))) (List.Perm.refl _) gX10_withWhatWouldBe_X10_toldOfBest rfl rfl rfl hd_X10_toldOfBest ⟨by decide, by decide⟩ rfl (Nat.le_of_ble_eq_true rfl) dX10_withWhatWouldBe_110 ⟨Nat.le_of_ble_eq_true rfl, Nat.le_of_ble_eq_true rfl⟩ (fun v_ w_ hvw => ?_)
        rw [hvw.1, hvw.2]
        clear hvw
        refine q_at (pc' := 113) (st' := [.int (bsC (g8_0 7, g8_0 8, g8_0 4, BO8_0) 1), .long ((31 : Int64) * (sy (wyL T (B, kp, km, ku) h0 3) (bsC (dfC T true true 7 (shN (B 2)) kp km ku (nI 0) 0 O (ac0 BO)) 0)))]) (ws' := oC x (q 0) (t 0) (a 0) (k 0) (u 0) (r 0) g ++ (pC E q n pf ++ (tC E t T ++ (nC E a (t 0) (nI sk) B ++ (kC (a 1) kp km ku ++ (nC E k (t 0) sn1 B1 ++ (kC (k 1) kp1 km1 ku1 ++ (nC E u (t 0) sn9 B9 ++ (kC (u 1) kp9 km9 ku9 ++ (rC E r (t 0) kd g8_0 O8_0 BO8_0 ++ (ksC kd P8_0 M8_0 U8_0 ++ tl))))))))))) (k' := 0) (n' := 0) rfl rfl rfl rfl rfl ?_
        refine q_toi (bsC (dfC T true true 7 (shN (B 2)) kp km ku (nI 0) 0 O (ac0 BO)) 1) (by rw [ha8_0]) ?_
        refine q_i2l F dX10_withWhatWouldBe_113 ?_
        refine q_ladd F dX10_withWhatWouldBe_114 ?_
        refine q_eq (st' := [.long (sy (sy (wyL T (B, kp, km, ku) h0 3) (bsC (dfC T true true 7 (shN (B 2)) kp km ku (nI 0) 0 O (ac0 BO)) 0)) (bsC (dfC T true true 7 (shN (B 2)) kp km ku (nI 0) 0 O (ac0 BO)) 1))]) rfl ?_
        refine q_lstore_n F (lv' := [(3, .long (sy (sy (wyL T (B, kp, km, ku) h0 3) (bsC (dfC T true true 7 (shN (B 2)) kp km ku (nI 0) 0 O (ac0 BO)) 0)) (bsC (dfC T true true 7 (shN (B 2)) kp km ku (nI 0) 0 O (ac0 BO)) 1))), (0, .ref x), (5, .int (nI 3))]) dX10_withWhatWouldBe_115 (by decide) rfl ?_
        refine q_ldc2 F hk202 dX10_withWhatWouldBe_116 ?_
        refine q_lload_n F 0 dX10_withWhatWouldBe_119 rfl ?_
        refine q_lmul F dX10_withWhatWouldBe_120 ?_
        refine q_aload_n F 1 dX10_withWhatWouldBe_121 rfl ?_
        refine q_bipush F dX10_withWhatWouldBe_122 (v := nI 10) (by decide) ?_
        refine q_perm pf10 ?_
        refine q_perm pf10 ?_
        refine q_perm pf10 ?_
        refine q_perm pf10 ?_
        refine q_perm pf10 ?_
        refine q_perm pf10 ?_
        refine q_perm pf10 ?_
        refine q_perm pf10 ?_
        refine q_perm pf10 ?_
        refine q_perm pf10 ?_
        refine q_perm pf10 ?_
        refine q_callV F (ci := 10) (As := [.int (nI 10)]) (rest := [.long ((31 : Int64) * (sy (sy (wyL T (B, kp, km, ku) h0 3) (bsC (dfC T true true 7 (shN (B 2)) kp km ku (nI 0) 0 O (ac0 BO)) 0)) (bsC (dfC T true true 7 (shN (B 2)) kp km ku (nI 0) 0 O (ac0 BO)) 1)))]) (List.mem_append_left _ (List.mem_of_getElem? (i := 0) rfl)) rfl (c_X10_toldOfBest l E x q t a k u r kd T g n pf (nI sk) B kp km ku sn1 B1 kp1 km1 ku1 sn9 B9 kp9 km9 ku9 g8_0 O8_0 BO8_0 P8_0 M8_0 U8_0 tl hH hn hq 10 (Or.inr (Or.inr ⟨0, by decide, rfl⟩))) (List.Perm.refl _) gX10_withWhatWouldBe_X10_toldOfBest rfl rfl rfl hd_X10_toldOfBest ⟨by decide, by decide⟩ rfl (Nat.le_of_ble_eq_true rfl) dX10_withWhatWouldBe_124 ⟨Nat.le_of_ble_eq_true rfl, Nat.le_of_ble_eq_true rfl⟩ (fun v_ w_ hvw => ?_)
        rw [hvw.1, hvw.2]
        clear hvw
        refine q_at (pc' := 127) (st' := [.int (bsC (g8_0 7, g8_0 8, g8_0 4, BO8_0) 10), .long ((31 : Int64) * (sy (sy (wyL T (B, kp, km, ku) h0 3) (bsC (dfC T true true 7 (shN (B 2)) kp km ku (nI 0) 0 O (ac0 BO)) 0)) (bsC (dfC T true true 7 (shN (B 2)) kp km ku (nI 0) 0 O (ac0 BO)) 1)))]) (ws' := oC x (q 0) (t 0) (a 0) (k 0) (u 0) (r 0) g ++ (pC E q n pf ++ (tC E t T ++ (nC E a (t 0) (nI sk) B ++ (kC (a 1) kp km ku ++ (nC E k (t 0) sn1 B1 ++ (kC (k 1) kp1 km1 ku1 ++ (nC E u (t 0) sn9 B9 ++ (kC (u 1) kp9 km9 ku9 ++ (rC E r (t 0) kd g8_0 O8_0 BO8_0 ++ (ksC kd P8_0 M8_0 U8_0 ++ tl))))))))))) (k' := 0) (n' := 0) rfl rfl rfl rfl rfl ?_
        refine q_toi (bsC (dfC T true true 7 (shN (B 2)) kp km ku (nI 0) 0 O (ac0 BO)) 10) (by rw [ha8_0]) ?_
        refine q_i2l F dX10_withWhatWouldBe_127 ?_
        refine q_ladd F dX10_withWhatWouldBe_128 ?_
        refine q_eq (st' := [.long (sy (sy (sy (wyL T (B, kp, km, ku) h0 3) (bsC (dfC T true true 7 (shN (B 2)) kp km ku (nI 0) 0 O (ac0 BO)) 0)) (bsC (dfC T true true 7 (shN (B 2)) kp km ku (nI 0) 0 O (ac0 BO)) 1)) (bsC (dfC T true true 7 (shN (B 2)) kp km ku (nI 0) 0 O (ac0 BO)) 10))]) rfl ?_
        refine q_lstore_n F (lv' := [(3, .long (sy (sy (sy (wyL T (B, kp, km, ku) h0 3) (bsC (dfC T true true 7 (shN (B 2)) kp km ku (nI 0) 0 O (ac0 BO)) 0)) (bsC (dfC T true true 7 (shN (B 2)) kp km ku (nI 0) 0 O (ac0 BO)) 1)) (bsC (dfC T true true 7 (shN (B 2)) kp km ku (nI 0) 0 O (ac0 BO)) 10))), (0, .ref x), (5, .int (nI 3))]) dX10_withWhatWouldBe_129 (by decide) rfl ?_
        refine q_ldc2 F hk202 dX10_withWhatWouldBe_130 ?_
        refine q_lload_n F 0 dX10_withWhatWouldBe_133 rfl ?_
        refine q_lmul F dX10_withWhatWouldBe_134 ?_
        refine q_aload_n F 1 dX10_withWhatWouldBe_135 rfl ?_
        refine q_get F (ci := 10) (j := 5) (v := .ref (r 0)) (List.mem_append_left _ (List.mem_of_getElem? (i := 0) rfl)) rfl hi10 (by decide) hf43_10 rfl rfl dX10_withWhatWouldBe_136 ?_
        refine q_aload_n F 1 dX10_withWhatWouldBe_139 rfl ?_
        refine q_get F (ci := 10) (j := 2) (v := .ref (a 0)) (List.mem_append_left _ (List.mem_of_getElem? (i := 0) rfl)) rfl hi10 (by decide) hf30_10 rfl rfl dX10_withWhatWouldBe_140 ?_
        refine q_perm pf10 ?_
        refine q_perm pf10 ?_
        refine q_callV F (ci := 7) (As := [.ref (a 0)]) (rest := [.long ((31 : Int64) * (sy (sy (sy (wyL T (B, kp, km, ku) h0 3) (bsC (dfC T true true 7 (shN (B 2)) kp km ku (nI 0) 0 O (ac0 BO)) 0)) (bsC (dfC T true true 7 (shN (B 2)) kp km ku (nI 0) 0 O (ac0 BO)) 1)) (bsC (dfC T true true 7 (shN (B 2)) kp km ku (nI 0) 0 O (ac0 BO)) 10)))]) (List.mem_append_left _ (List.mem_of_getElem? (i := 0) rfl)) rfl (c_X7_seekShortest l E r t kd a T g8_0 O8_0 BO8_0 P8_0 M8_0 U8_0 (nI sk) B kp km ku (oC x (q 0) (t 0) (a 0) (k 0) (u 0) (r 0) g ++ (pC E q n pf ++ (tC E t T ++ (nC E a (t 0) (nI sk) B ++ (kC (a 1) kp km ku ++ (nC E k (t 0) sn1 B1 ++ (kC (k 1) kp1 km1 ku1 ++ (nC E u (t 0) sn9 B9 ++ (kC (u 1) kp9 km9 ku9 ++ tl))))))))) (isIn.r _ (isIn.r _ (isIn.l _ _))) (isHs.r _ (isHs.r _ (isHs.r _ (isHs.r _ (isHs.r _ (isHs.r _ (isHs.r _ (isHs.r _ (isHs.r _ hH))))))))) hn (isIn.r _ (isIn.r _ (isIn.r _ (isIn.l _ _)))) (isIn.r _ (isIn.r _ (isIn.r _ (isIn.r _ (isIn.l _ _))))) hB ) (List.Perm.refl _) gX10_withWhatWouldBe_X7_seekShortest rfl rfl rfl hd_X7_seekShortest ⟨by decide, by decide⟩ rfl (Nat.le_of_ble_eq_true rfl) dX10_withWhatWouldBe_143 ⟨Nat.le_of_ble_eq_true rfl, Nat.le_of_ble_eq_true rfl⟩ (fun v_ w_ hvw => ?_)
        obtain ⟨hv_, g8_1, O8_1, BO8_1, P8_1, M8_1, U8_1, hw_, ha8_1, h58_1, h68_1⟩ := hvw
        rw [hv_, hw_]
        clear hv_ hw_
        refine q_at (pc' := 146) (st' := [.int ((dfC T false true 7 (shN (B 2)) kp km ku (nI 0) 0 O8_0 (ac0 BO8_0)).2.1), .long ((31 : Int64) * (sy (sy (sy (wyL T (B, kp, km, ku) h0 3) (bsC (dfC T true true 7 (shN (B 2)) kp km ku (nI 0) 0 O (ac0 BO)) 0)) (bsC (dfC T true true 7 (shN (B 2)) kp km ku (nI 0) 0 O (ac0 BO)) 1)) (bsC (dfC T true true 7 (shN (B 2)) kp km ku (nI 0) 0 O (ac0 BO)) 10)))]) (ws' := rC E r (t 0) kd g8_1 O8_1 BO8_1 ++ (ksC kd P8_1 M8_1 U8_1 ++ (oC x (q 0) (t 0) (a 0) (k 0) (u 0) (r 0) g ++ (pC E q n pf ++ (tC E t T ++ (nC E a (t 0) (nI sk) B ++ (kC (a 1) kp km ku ++ (nC E k (t 0) sn1 B1 ++ (kC (k 1) kp1 km1 ku1 ++ (nC E u (t 0) sn9 B9 ++ (kC (u 1) kp9 km9 ku9 ++ tl))))))))))) (k' := 0) (n' := 0) rfl rfl rfl rfl rfl ?_
        refine q_toi (shE T (shN (B 2)) kp km ku) (shE_of) ?_
        refine q_i2l F dX10_withWhatWouldBe_146 ?_
        refine q_ladd F dX10_withWhatWouldBe_147 ?_
        refine q_eq (st' := [.long (sy (sy (sy (sy (wyL T (B, kp, km, ku) h0 3) (bsC (dfC T true true 7 (shN (B 2)) kp km ku (nI 0) 0 O (ac0 BO)) 0)) (bsC (dfC T true true 7 (shN (B 2)) kp km ku (nI 0) 0 O (ac0 BO)) 1)) (bsC (dfC T true true 7 (shN (B 2)) kp km ku (nI 0) 0 O (ac0 BO)) 10)) (shE T (shN (B 2)) kp km ku))]) rfl ?_
        refine q_lstore_n F (lv' := [(3, .long (sy (sy (sy (sy (wyL T (B, kp, km, ku) h0 3) (bsC (dfC T true true 7 (shN (B 2)) kp km ku (nI 0) 0 O (ac0 BO)) 0)) (bsC (dfC T true true 7 (shN (B 2)) kp km ku (nI 0) 0 O (ac0 BO)) 1)) (bsC (dfC T true true 7 (shN (B 2)) kp km ku (nI 0) 0 O (ac0 BO)) 10)) (shE T (shN (B 2)) kp km ku))), (0, .ref x), (5, .int (nI 3))]) dX10_withWhatWouldBe_148 (by decide) rfl ?_
        refine q_aload_n F 1 dX10_withWhatWouldBe_149 rfl ?_
        refine q_perm pf1 ?_
        refine q_perm pf1 ?_
        refine q_perm pf10 ?_
        refine q_perm pf10 ?_
        refine q_perm pf10 ?_
        refine q_perm pf10 ?_
        refine q_perm pf10 ?_
        refine q_perm pf10 ?_
        refine q_perm pf10 ?_
        refine q_perm pf10 ?_
        refine q_perm pf10 ?_
        refine q_callV F (ci := 10) (As := []) (rest := []) (List.mem_append_left _ (List.mem_of_getElem? (i := 0) rfl)) rfl (c_X10_seekGuesses l E x q t a k u r kd T g n pf sk hk6 B kp km ku sn1 B1 kp1 km1 ku1 sn9 B9 kp9 km9 ku9 g8_1 O8_1 BO8_1 P8_1 M8_1 U8_1 tl hH hn hq hz) (List.Perm.refl _) gX10_withWhatWouldBe_X10_seekGuesses rfl rfl rfl hd_X10_seekGuesses ⟨by decide, by decide⟩ rfl (Nat.le_of_ble_eq_true rfl) dX10_withWhatWouldBe_150 ⟨Nat.le_of_ble_eq_true rfl, Nat.le_of_ble_eq_true rfl⟩ (fun v_ w_ hvw => ?_)
        obtain ⟨hv_, z0_2, z1_2, z2_2, z3_2, z4_2, hw_⟩ := hvw
        rw [hv_, hw_]
        clear hv_ hw_
        refine q_at (pc' := 153) (st' := []) (ws' := oC x (q 0) (t 0) (a 0) (k 0) (u 0) (r 0) (upd (upd g 9 ((gsC T B sk 30).1)) 10 ((gsC T B sk 30).2)) ++ (pC E q n pf ++ (tC E t T ++ (nC E a (t 0) (nI sk) B ++ (kC (a 1) kp km ku ++ (nC E k (t 0) sn1 B1 ++ (kC (k 1) kp1 km1 ku1 ++ (nC E u (t 0) z0_2 z1_2 ++ (kC (u 1) z2_2 z3_2 z4_2 ++ (rC E r (t 0) kd g8_1 O8_1 BO8_1 ++ (ksC kd P8_1 M8_1 U8_1 ++ tl))))))))))) (k' := 0) (n' := 0) rfl rfl rfl rfl rfl ?_
        refine q_ldc2 F hk202 dX10_withWhatWouldBe_153 ?_
        refine q_lload_n F 0 dX10_withWhatWouldBe_156 rfl ?_
        refine q_lmul F dX10_withWhatWouldBe_157 ?_
        refine q_aload_n F 1 dX10_withWhatWouldBe_158 rfl ?_
        refine q_get F (ci := 10) (j := 9) (v := .int ((gsC T B sk 30).1)) (List.mem_append_left _ (List.mem_of_getElem? (i := 0) rfl)) rfl hi10 (by decide) hf175_10 rfl rfl dX10_withWhatWouldBe_159 ?_
        refine q_i2l F dX10_withWhatWouldBe_162 ?_
        refine q_ladd F dX10_withWhatWouldBe_163 ?_
        refine q_eq (st' := [.long (sy (sy (sy (sy (sy (wyL T (B, kp, km, ku) h0 3) (bsC (dfC T true true 7 (shN (B 2)) kp km ku (nI 0) 0 O (ac0 BO)) 0)) (bsC (dfC T true true 7 (shN (B 2)) kp km ku (nI 0) 0 O (ac0 BO)) 1)) (bsC (dfC T true true 7 (shN (B 2)) kp km ku (nI 0) 0 O (ac0 BO)) 10)) (shE T (shN (B 2)) kp km ku)) ((gsC T B sk 30).1))]) rfl ?_
        refine q_lstore_n F (lv' := [(3, .long (sy (sy (sy (sy (sy (wyL T (B, kp, km, ku) h0 3) (bsC (dfC T true true 7 (shN (B 2)) kp km ku (nI 0) 0 O (ac0 BO)) 0)) (bsC (dfC T true true 7 (shN (B 2)) kp km ku (nI 0) 0 O (ac0 BO)) 1)) (bsC (dfC T true true 7 (shN (B 2)) kp km ku (nI 0) 0 O (ac0 BO)) 10)) (shE T (shN (B 2)) kp km ku)) ((gsC T B sk 30).1))), (0, .ref x), (5, .int (nI 3))]) dX10_withWhatWouldBe_164 (by decide) rfl ?_
        refine q_ldc2 F hk202 dX10_withWhatWouldBe_165 ?_
        refine q_lload_n F 0 dX10_withWhatWouldBe_168 rfl ?_
        refine q_lmul F dX10_withWhatWouldBe_169 ?_
        refine q_aload_n F 1 dX10_withWhatWouldBe_170 rfl ?_
        refine q_get F (ci := 10) (j := 10) (v := .int ((gsC T B sk 30).2)) (List.mem_append_left _ (List.mem_of_getElem? (i := 0) rfl)) rfl hi10 (by decide) hf178_10 rfl rfl dX10_withWhatWouldBe_171 ?_
        refine q_i2l F dX10_withWhatWouldBe_174 ?_
        refine q_ladd F dX10_withWhatWouldBe_175 ?_
        refine q_eq (st' := [.long (sy (sy (sy (sy (sy (sy (wyL T (B, kp, km, ku) h0 3) (bsC (dfC T true true 7 (shN (B 2)) kp km ku (nI 0) 0 O (ac0 BO)) 0)) (bsC (dfC T true true 7 (shN (B 2)) kp km ku (nI 0) 0 O (ac0 BO)) 1)) (bsC (dfC T true true 7 (shN (B 2)) kp km ku (nI 0) 0 O (ac0 BO)) 10)) (shE T (shN (B 2)) kp km ku)) ((gsC T B sk 30).1)) ((gsC T B sk 30).2))]) rfl ?_
        refine q_perm pf10 ?_
        refine q_perm pf10 ?_
        refine q_perm pf10 ?_
        refine q_perm pf10 ?_
        refine q_perm pf10 ?_
        refine q_perm pf10 ?_
        refine q_perm pf10 ?_
        refine q_perm pf10 ?_
        refine q_perm pf10 ?_
        refine q_perm pf10 ?_
        refine q_perm pf10 ?_
        exact q_lret F hr_ dX10_withWhatWouldBe_176 (hp_ _ _ ⟨rfl, _, _, _, _, _, _, _, _, _, _, _, rfl⟩)
      · skip
        have hn_8 : l_ < 3 := nf_ge_f (by omega) (by omega) h_8
        refine q_ldc2 F hk202 dX10_withWhatWouldBe_11 ?_
        refine q_lload_n F 1 dX10_withWhatWouldBe_14 rfl ?_
        refine q_lmul F dX10_withWhatWouldBe_15 ?_
        have hl3 : l_ < 3 := by omega
        refine q_aload_n F 0 dX10_withWhatWouldBe_16 rfl ?_
        refine q_get F (ci := 10) (j := 2) (v := .ref (a 0)) (List.mem_append_left _ (List.mem_of_getElem? (i := 0) rfl)) rfl hi10 (by decide) hf30_10 rfl rfl dX10_withWhatWouldBe_17 ?_
        refine q_iload F 2 dX10_withWhatWouldBe_20 rfl ?_
        refine q_callV F (ci := 5) (As := [.int (nI l_)]) (rest := [.long ((31 : Int64) * (wyL T (B, kp, km, ku) h0 l_))]) (List.mem_append_right _ (List.mem_append_right _ (List.mem_append_right _ (List.mem_append_left _ (List.mem_of_getElem? (i := 0) rfl))))) rfl (c_X5_nextBy l E a t T (nI sk) B kp km ku (oC x (q 0) (t 0) (a 0) (k 0) (u 0) (r 0) g ++ (pC E q n pf ++ (tC E t T ++ (nC E a (t 0) (nI sk) B ++ (kC (a 1) kp km ku ++ (nC E k (t 0) sn1 B1 ++ (kC (k 1) kp1 km1 ku1 ++ (nC E u (t 0) sn9 B9 ++ (kC (u 1) kp9 km9 ku9 ++ (rC E r (t 0) kd rg O BO ++ (ksC kd P M U ++ tl))))))))))) (isIn.r _ (isIn.r _ (isIn.r _ (isIn.l _ _)))) (isIn.r _ (isIn.r _ (isIn.r _ (isIn.r _ (isIn.l _ _))))) (isIn.r _ (isIn.r _ (isIn.l _ _))) (isHs.r _ (isHs.r _ (isHs.r _ (isHs.r _ (isHs.r _ (isHs.r _ (isHs.r _ (isHs.r _ (isHs.r _ (isHs.r _ (isHs.r _ hH))))))))))) hn l_ hl3) (List.Perm.refl _) gX10_withWhatWouldBe_X5_nextBy rfl rfl rfl hd_X5_nextBy ⟨by decide, by decide⟩ rfl (Nat.le_of_ble_eq_true rfl) dX10_withWhatWouldBe_22 ⟨Nat.le_of_ble_eq_true rfl, Nat.le_of_ble_eq_true rfl⟩ (fun v_ w_ hvw => ?_)
        rw [hvw.1, hvw.2]
        clear hvw
        refine q_at (pc' := 25) (st' := [.int (nxB T l_ (B 2) kp), .long ((31 : Int64) * (wyL T (B, kp, km, ku) h0 l_))]) (ws' := oC x (q 0) (t 0) (a 0) (k 0) (u 0) (r 0) g ++ (pC E q n pf ++ (tC E t T ++ (nC E a (t 0) (nI sk) B ++ (kC (a 1) kp km ku ++ (nC E k (t 0) sn1 B1 ++ (kC (k 1) kp1 km1 ku1 ++ (nC E u (t 0) sn9 B9 ++ (kC (u 1) kp9 km9 ku9 ++ (rC E r (t 0) kd rg O BO ++ (ksC kd P M U ++ tl))))))))))) (k' := 0) (n' := 0) rfl rfl rfl rfl rfl ?_
        refine q_i2l F dX10_withWhatWouldBe_25 ?_
        refine q_ladd F dX10_withWhatWouldBe_26 ?_
        refine q_eq (st' := [.long (sy (wyL T (B, kp, km, ku) h0 l_) (nxB T l_ (B 2) kp))]) rfl ?_
        refine q_lstore_n F (lv' := [(3, .long (sy (wyL T (B, kp, km, ku) h0 l_) (nxB T l_ (B 2) kp))), (0, .ref x), (5, .int (nI l_))]) dX10_withWhatWouldBe_27 (by decide) rfl ?_
        refine q_aload_n F 1 dX10_withWhatWouldBe_28 rfl ?_
        refine q_iload F 2 dX10_withWhatWouldBe_29 rfl ?_
        refine q_perm pf10 ?_
        refine q_perm pf10 ?_
        refine q_perm pf10 ?_
        refine q_perm pf10 ?_
        refine q_perm pf10 ?_
        refine q_perm pf10 ?_
        refine q_perm pf10 ?_
        refine q_perm pf10 ?_
        refine q_perm pf10 ?_
        refine q_perm pf10 ?_
        refine q_perm pf10 ?_
        refine q_callV F (ci := 10) (As := [.int (nI l_)]) (rest := []) (List.mem_append_left _ (List.mem_of_getElem? (i := 0) rfl)) rfl (c_X10_goBy l E x q t a k u r kd T g n pf (nI sk) B kp km ku sn1 B1 kp1 km1 ku1 sn9 B9 kp9 km9 ku9 rg O BO P M U tl hH hn hq hz l_ (by omega)) (List.Perm.refl _) gX10_withWhatWouldBe_X10_goBy rfl rfl rfl hd_X10_goBy ⟨by decide, by decide⟩ rfl (Nat.le_of_ble_eq_true rfl) dX10_withWhatWouldBe_31 ⟨Nat.le_of_ble_eq_true rfl, Nat.le_of_ble_eq_true rfl⟩ (fun v_ w_ hvw => ?_)
        rw [hvw.1, hvw.2]
        clear hvw
        refine q_at (pc' := 34) (st' := []) (ws' := oC x (q 0) (t 0) (a 0) (k 0) (u 0) (r 0) g ++ (pC E q n pf ++ (tC E t T ++ (nC E a (t 0) (nI sk) B ++ (kC (a 1) kp km ku ++ (nC E k (t 0) sn1 B1 ++ (kC (k 1) kp1 km1 ku1 ++ (nC E u (t 0) (nI sk) ((laN T l_ 6 (B, kp, km, ku)).1) ++ (kC (u 1) ((laN T l_ 6 (B, kp, km, ku)).2.1) ((laN T l_ 6 (B, kp, km, ku)).2.2.1) ((laN T l_ 6 (B, kp, km, ku)).2.2.2) ++ (rC E r (t 0) kd rg O BO ++ (ksC kd P M U ++ tl))))))))))) (k' := 0) (n' := 0) rfl rfl rfl rfl rfl ?_
        refine q_iconst F dX10_withWhatWouldBe_34 (v := nI 0) (by decide) ?_
        refine q_istore F (lv' := [(6, .int (nI 0)), (3, .long (sy (wyL T (B, kp, km, ku) h0 l_) (nxB T l_ (B 2) kp))), (0, .ref x), (5, .int (nI l_))]) dX10_withWhatWouldBe_35 (by decide) rfl ?_
        have lb37 : ∀ (fu : Nat) (j : Nat) (hj : j ≤ 3), 3 - j < fu → gW p_ l e_ (rmL 21 0 0) s_ m_ args_ below_ meth_ c_ E A_ 7 (MQ below_ (gQ E A_ P_) args_ s_ 0 0 A_) 37 [(0, .ref x), (3, .long (wyB T (B, kp, km, ku) l_ (sy (wyL T (B, kp, km, ku) h0 l_) (nxB T l_ (B 2) kp)) j)), (5, .int (nI l_)), (6, .int (nI j))] [] (oC x (q 0) (t 0) (a 0) (k 0) (u 0) (r 0) g ++ (pC E q n pf ++ (tC E t T ++ (nC E a (t 0) (nI sk) B ++ (kC (a 1) kp km ku ++ (nC E k (t 0) sn1 B1 ++ (kC (k 1) kp1 km1 ku1 ++ (nC E u (t 0) (nI sk) ((laN T l_ 6 (B, kp, km, ku)).1) ++ (kC (u 1) ((laN T l_ 6 (B, kp, km, ku)).2.1) ((laN T l_ 6 (B, kp, km, ku)).2.2.1) ((laN T l_ 6 (B, kp, km, ku)).2.2.2) ++ (rC E r (t 0) kd rg O BO ++ (ksC kd P M U ++ tl))))))))))) 0 0 := by
          intro fu_37
          induction fu_37 with
          | zero => intro j hj hfu; exact absurd hfu (Nat.not_lt_zero _)
          | succ fu_37 ih_37 =>
            intro j hj hfu_37
            refine q_iload F 3 dX10_withWhatWouldBe_37 rfl ?_
            refine q_iconst F dX10_withWhatWouldBe_39 (v := nI 2) (by decide) ?_
            refine q_icmp_gt F (tgt := 63) dX10_withWhatWouldBe_40 (by decide) (fun h_40 => ?_) (fun h_40 => ?_)
            · skip
              have hn_40 : j > 2 := nf_gt_t (by omega) (by omega) h_40
              obtain rfl : j = 3 := by omega
              refine q_iinc F 2 (v := nI (l_ + 1)) (lv' := [(5, .int (nI (l_ + 1))), (0, .ref x), (3, .long (wyB T (B, kp, km, ku) l_ (sy (wyL T (B, kp, km, ku) h0 l_) (nxB T l_ (B 2) kp)) 3)), (6, .int (nI 3))]) dX10_withWhatWouldBe_63 rfl (nI_1 _) (by decide) rfl ?_
              refine q_goto F (tgt := 5) dX10_withWhatWouldBe_66 (by decide) ?_
              refine q_lv [1, 2, 0] (lv' := [(0, .ref x), (3, .long (wyB T (B, kp, km, ku) l_ (sy (wyL T (B, kp, km, ku) h0 l_) (nxB T l_ (B 2) kp)) 3)), (5, .int (nI (l_ + 1)))]) rfl ?_
              refine q_perm pf10 ?_
              refine q_perm pf10 ?_
              refine q_perm pf10 ?_
              refine q_perm pf10 ?_
              refine q_perm pf10 ?_
              refine q_perm pf10 ?_
              refine q_perm pf10 ?_
              refine q_perm pf10 ?_
              refine q_perm pf10 ?_
              refine q_perm pf10 ?_
              refine q_perm pf10 ?_
              refine q_to (lv' := [(0, .ref x), (3, .long (wyL T (B, kp, km, ku) h0 (l_ + 1))), (5, .int (nI (l_ + 1)))]) (st' := []) (ws' := oC x (q 0) (t 0) (a 0) (k 0) (u 0) (r 0) g ++ (pC E q n pf ++ (tC E t T ++ (nC E a (t 0) (nI sk) B ++ (kC (a 1) kp km ku ++ (nC E k (t 0) sn1 B1 ++ (kC (k 1) kp1 km1 ku1 ++ (nC E u (t 0) (nI sk) ((laN T l_ 6 (B, kp, km, ku)).1) ++ (kC (u 1) ((laN T l_ 6 (B, kp, km, ku)).2.1) ((laN T l_ 6 (B, kp, km, ku)).2.2.1) ((laN T l_ 6 (B, kp, km, ku)).2.2.2) ++ (rC E r (t 0) kd rg O BO ++ (ksC kd P M U ++ tl))))))))))) (cE (vE (rfl)) (cE (vE (congrArg Value.long (by rw [wyL]))) (cE (vE (rfl)) rfl))) rfl rfl ?_
              exact ih_5 (l_ + 1) (nI sk) ((laN T l_ 6 (B, kp, km, ku)).1) ((laN T l_ 6 (B, kp, km, ku)).2.1) ((laN T l_ 6 (B, kp, km, ku)).2.2.1) ((laN T l_ 6 (B, kp, km, ku)).2.2.2) (by omega) (by omega)
            · skip
              have hn_40 : j ≤ 2 := nf_gt_f (by omega) (by omega) h_40
              refine q_ldc2 F hk202 dX10_withWhatWouldBe_43 ?_
              refine q_lload_n F 1 dX10_withWhatWouldBe_46 rfl ?_
              refine q_lmul F dX10_withWhatWouldBe_47 ?_
              refine q_aload_n F 0 dX10_withWhatWouldBe_48 rfl ?_
              refine q_iload F 3 dX10_withWhatWouldBe_49 rfl ?_
              refine q_perm pf10 ?_
              refine q_perm pf10 ?_
              refine q_perm pf10 ?_
              refine q_perm pf10 ?_
              refine q_perm pf10 ?_
              refine q_perm pf10 ?_
              refine q_perm pf10 ?_
              refine q_perm pf10 ?_
              refine q_perm pf10 ?_
              refine q_perm pf10 ?_
              refine q_perm pf10 ?_
              refine q_callV F (ci := 10) (As := [.int (nI j)]) (rest := [.long ((31 : Int64) * (wyB T (B, kp, km, ku) l_ (sy (wyL T (B, kp, km, ku) h0 l_) (nxB T l_ (B 2) kp)) j))]) (List.mem_append_left _ (List.mem_of_getElem? (i := 0) rfl)) rfl (c_X10_toldByLaw l E x q t a k u r kd T g n pf (nI sk) B kp km ku sn1 B1 kp1 km1 ku1 (nI sk) ((laN T l_ 6 (B, kp, km, ku)).1) ((laN T l_ 6 (B, kp, km, ku)).2.1) ((laN T l_ 6 (B, kp, km, ku)).2.2.1) ((laN T l_ 6 (B, kp, km, ku)).2.2.2) rg O BO P M U tl hH hn hq j (by omega)) (List.Perm.refl _) gX10_withWhatWouldBe_X10_toldByLaw rfl rfl rfl hd_X10_toldByLaw ⟨by decide, by decide⟩ rfl (Nat.le_of_ble_eq_true rfl) dX10_withWhatWouldBe_51 ⟨Nat.le_of_ble_eq_true rfl, Nat.le_of_ble_eq_true rfl⟩ (fun v_ w_ hvw => ?_)
              rw [hvw.1, hvw.2]
              clear hvw
              refine q_at (pc' := 54) (st' := [.int (tbL B ((laN T l_ 6 (B, kp, km, ku)).1) ((laN T l_ 6 (B, kp, km, ku)).2.1) ((laN T l_ 6 (B, kp, km, ku)).2.2.1) j), .long ((31 : Int64) * (wyB T (B, kp, km, ku) l_ (sy (wyL T (B, kp, km, ku) h0 l_) (nxB T l_ (B 2) kp)) j))]) (ws' := oC x (q 0) (t 0) (a 0) (k 0) (u 0) (r 0) g ++ (pC E q n pf ++ (tC E t T ++ (nC E a (t 0) (nI sk) B ++ (kC (a 1) kp km ku ++ (nC E k (t 0) sn1 B1 ++ (kC (k 1) kp1 km1 ku1 ++ (nC E u (t 0) (nI sk) ((laN T l_ 6 (B, kp, km, ku)).1) ++ (kC (u 1) ((laN T l_ 6 (B, kp, km, ku)).2.1) ((laN T l_ 6 (B, kp, km, ku)).2.2.1) ((laN T l_ 6 (B, kp, km, ku)).2.2.2) ++ (rC E r (t 0) kd rg O BO ++ (ksC kd P M U ++ tl))))))))))) (k' := 0) (n' := 0) rfl rfl rfl rfl rfl ?_
              refine q_toi (byC T (B, kp, km, ku) l_ j) (by rcases (show j = 0 ∨ j = 1 ∨ j = 2 by omega) with rfl | rfl | rfl <;> rfl) ?_
              refine q_i2l F dX10_withWhatWouldBe_54 ?_
              refine q_ladd F dX10_withWhatWouldBe_55 ?_
              refine q_eq (st' := [.long (sy (wyB T (B, kp, km, ku) l_ (sy (wyL T (B, kp, km, ku) h0 l_) (nxB T l_ (B 2) kp)) j) (byC T (B, kp, km, ku) l_ j))]) rfl ?_
              refine q_lstore_n F (lv' := [(3, .long (sy (wyB T (B, kp, km, ku) l_ (sy (wyL T (B, kp, km, ku) h0 l_) (nxB T l_ (B 2) kp)) j) (byC T (B, kp, km, ku) l_ j))), (0, .ref x), (5, .int (nI l_)), (6, .int (nI j))]) dX10_withWhatWouldBe_56 (by decide) rfl ?_
              refine q_iinc F 3 (v := nI (j + 1)) (lv' := [(6, .int (nI (j + 1))), (3, .long (sy (wyB T (B, kp, km, ku) l_ (sy (wyL T (B, kp, km, ku) h0 l_) (nxB T l_ (B 2) kp)) j) (byC T (B, kp, km, ku) l_ j))), (0, .ref x), (5, .int (nI l_))]) dX10_withWhatWouldBe_57 rfl (nI_1 _) (by decide) rfl ?_
              refine q_goto F (tgt := 37) dX10_withWhatWouldBe_60 (by decide) ?_
              refine q_lv [2, 1, 3, 0] (lv' := [(0, .ref x), (3, .long (sy (wyB T (B, kp, km, ku) l_ (sy (wyL T (B, kp, km, ku) h0 l_) (nxB T l_ (B 2) kp)) j) (byC T (B, kp, km, ku) l_ j))), (5, .int (nI l_)), (6, .int (nI (j + 1)))]) rfl ?_
              refine q_perm pf10 ?_
              refine q_perm pf10 ?_
              refine q_perm pf10 ?_
              refine q_perm pf10 ?_
              refine q_perm pf10 ?_
              refine q_perm pf10 ?_
              refine q_perm pf10 ?_
              refine q_perm pf10 ?_
              refine q_perm pf10 ?_
              refine q_perm pf10 ?_
              refine q_perm pf10 ?_
              refine q_to (lv' := [(0, .ref x), (3, .long (wyB T (B, kp, km, ku) l_ (sy (wyL T (B, kp, km, ku) h0 l_) (nxB T l_ (B 2) kp)) (j + 1))), (5, .int (nI l_)), (6, .int (nI (j + 1)))]) (st' := []) (ws' := oC x (q 0) (t 0) (a 0) (k 0) (u 0) (r 0) g ++ (pC E q n pf ++ (tC E t T ++ (nC E a (t 0) (nI sk) B ++ (kC (a 1) kp km ku ++ (nC E k (t 0) sn1 B1 ++ (kC (k 1) kp1 km1 ku1 ++ (nC E u (t 0) (nI sk) ((laN T l_ 6 (B, kp, km, ku)).1) ++ (kC (u 1) ((laN T l_ 6 (B, kp, km, ku)).2.1) ((laN T l_ 6 (B, kp, km, ku)).2.2.1) ((laN T l_ 6 (B, kp, km, ku)).2.2.2) ++ (rC E r (t 0) kd rg O BO ++ (ksC kd P M U ++ tl))))))))))) (cE (vE (rfl)) (cE (vE (congrArg Value.long (by rw [wyB]))) (cE (vE (rfl)) (cE (vE (rfl)) rfl)))) rfl rfl ?_
              exact ih_37 (j + 1) (by omega) (by omega)
        refine q_lv [2, 1, 3, 0] (lv' := [(0, .ref x), (3, .long (sy (wyL T (B, kp, km, ku) h0 l_) (nxB T l_ (B 2) kp))), (5, .int (nI l_)), (6, .int (nI 0))]) rfl ?_
        refine q_perm pf10 ?_
        refine q_perm pf10 ?_
        refine q_perm pf10 ?_
        refine q_perm pf10 ?_
        refine q_perm pf10 ?_
        refine q_perm pf10 ?_
        refine q_perm pf10 ?_
        refine q_perm pf10 ?_
        refine q_perm pf10 ?_
        refine q_perm pf10 ?_
        refine q_perm pf10 ?_
        refine q_to (lv' := [(0, .ref x), (3, .long (wyB T (B, kp, km, ku) l_ (sy (wyL T (B, kp, km, ku) h0 l_) (nxB T l_ (B 2) kp)) 0)), (5, .int (nI l_)), (6, .int (nI 0))]) (st' := []) (ws' := oC x (q 0) (t 0) (a 0) (k 0) (u 0) (r 0) g ++ (pC E q n pf ++ (tC E t T ++ (nC E a (t 0) (nI sk) B ++ (kC (a 1) kp km ku ++ (nC E k (t 0) sn1 B1 ++ (kC (k 1) kp1 km1 ku1 ++ (nC E u (t 0) (nI sk) ((laN T l_ 6 (B, kp, km, ku)).1) ++ (kC (u 1) ((laN T l_ 6 (B, kp, km, ku)).2.1) ((laN T l_ 6 (B, kp, km, ku)).2.2.1) ((laN T l_ 6 (B, kp, km, ku)).2.2.2) ++ (rC E r (t 0) kd rg O BO ++ (ksC kd P M U ++ tl))))))))))) (cE (vE (rfl)) (cE (vE (congrArg Value.long (by rw [wyB]))) (cE (vE (rfl)) (cE (vE (rfl)) rfl)))) rfl rfl ?_
        exact lb37 (3 - 0 + 1) 0 (by omega) (Nat.lt_succ_self _)
  refine q_lv [2, 1, 0] (lv' := [(0, .ref x), (3, .long h0), (5, .int (nI 0))]) rfl ?_
  refine q_perm pf10 ?_
  refine q_perm pf10 ?_
  refine q_perm pf10 ?_
  refine q_perm pf10 ?_
  refine q_perm pf10 ?_
  refine q_perm pf10 ?_
  refine q_perm pf10 ?_
  refine q_perm pf10 ?_
  refine q_perm pf10 ?_
  refine q_perm pf10 ?_
  refine q_perm pf10 ?_
  refine q_to (lv' := [(0, .ref x), (3, .long (wyL T (B, kp, km, ku) h0 0)), (5, .int (nI 0))]) (st' := []) (ws' := oC x (q 0) (t 0) (a 0) (k 0) (u 0) (r 0) g ++ (pC E q n pf ++ (tC E t T ++ (nC E a (t 0) (nI sk) B ++ (kC (a 1) kp km ku ++ (nC E k (t 0) sn1 B1 ++ (kC (k 1) kp1 km1 ku1 ++ (nC E u (t 0) sn2 B2 ++ (kC (u 1) kp2 km2 ku2 ++ (rC E r (t 0) kd rg O BO ++ (ksC kd P M U ++ tl))))))))))) (cE (vE (rfl)) (cE (vE (congrArg Value.long (by rw [wyL]))) (cE (vE (rfl)) rfl))) rfl rfl ?_
  exact lb5 (3 - 0 + 1) 0 sn2 B2 kp2 km2 ku2 (by omega) (Nat.lt_succ_self _)

set_option maxHeartbeats 4000000 in
set_option maxRecDepth 100000 in
theorem c_X10_digest (l : Launch) (E : gEnv) (x : Nat) (q t a k u r kd : Nat → Nat) (T : gTown) (g : Nat → Int32) (n : Nat) (pf : Nat → Int32) (sk : Nat) (hk6 : sk ≤ 6) (B : Nat → Nat → Int32) (kp km ku : Int32) (sn1 : Int32) (B1 : Nat → Nat → Int32) (kp1 km1 ku1 : Int32) (sn2 : Int32) (B2 : Nat → Nat → Int32) (kp2 km2 ku2 : Int32) (rg O BO P M U : Nat → Int32) (tl : va_W) (hH : isHs T tl) (hn : tN T ≤ 6) (hq : n ≤ 30) (hz : okZ (B 8)) (hB : okN T (B 2)) : Cn l E yX10_digest wsX10_digest (rmL 22 0 0) [.ref x] (oC x (q 0) (t 0) (a 0) (k 0) (u 0) (r 0) g ++ (pC E q n pf ++ (tC E t T ++ (nC E a (t 0) (nI sk) B ++ (kC (a 1) kp km ku ++ (nC E k (t 0) sn1 B1 ++ (kC (k 1) kp1 km1 ku1 ++ (nC E u (t 0) sn2 B2 ++ (kC (u 1) kp2 km2 ku2 ++ (rC E r (t 0) kd rg O BO ++ (ksC kd P M U ++ tl))))))))))) 0 0 (fun v w => ∃ (y : Int64) (S' : gSt), v = some (.long y) ∧ w = xW E (x, q, t, a, k, u, r, kd) S' tl ∧ ∃ (g' : Nat → Int32) (z1 : Int32) (z2 : Nat → Nat → Int32) (z3 z4 z5 : Int32) (r1 r2 r3 r4 r5 r6 : Nat → Int32), y = dyN (cnC T g n (nI sk) B kp km ku) (syP pf (dyT T (B, kp, km, ku) sk (dfC T true true 7 (shN (B 2)) kp km ku (nI 0) 0 O (ac0 BO))) n) 11 ∧ g' 6 = g 6 ∧ g' 7 = g 7 ∧ g' 8 = g 8 ∧ S' = ((T, n, pf, g', (nI sk, B, kp, km, ku), (sn1, B1, kp1, km1, ku1), (z1, z2, z3, z4, z5), (r1, r2, r3, r4, r5, r6)) : gSt)) := by
  refine Cn.of (own := RX10) (cc := cX10_digest) (maxL := 5) (ret := (some .long)) (lv := [(0, .ref x)]) (by decide) rfl rfl (Nat.le_of_ble_eq_true rfl) rfl ?_
  intro p_ e_ s_ m_ args_ below_ meth_ c_ A_ P_ hp_ F hr_ hnm_
  have hk200 : Cond.constantLong RX10 200 (823) ∈ wsX10_digest := by decide +kernel
  have hf21_10 : Cond.fieldLink RX10 21 "KeyOnStreet" (TX10 1).2.1 (TX10 1).2.2.1 ∈ wsX10_digest := by decide +kernel
  have hi10 : ∀ w ∈ u_ws RX10 TX10 11, w ∈ wsX10_digest := by decide +kernel
  have hf77_8 : Cond.fieldLink RX10 77 "KeyOnStreet$Town" (TX8 2).2.1 (TX8 2).2.2.1 ∈ wsX10_digest := by decide +kernel
  have hi8 : ∀ w ∈ u_ws RX8 TX8 4, w ∈ wsX10_digest := by decide +kernel
  have hd_X10_hasTown : yX10_hasTown.cls = RX10 ∧ yX10_hasTown.cls ≠ "java/lang/invoke/MethodHandle" ∧ yX10_hasTown.cls ≠ "java/lang/invoke/VarHandle" ∧ (parseMethodDescriptor yX10_hasTown.desc).map (fun d => d.parameters.length) = some 0 := by decide +kernel
  have hf12_10 : Cond.fieldLink RX10 12 "KeyOnStreet" (TX10 0).2.1 (TX10 0).2.2.1 ∈ wsX10_digest := by decide +kernel
  have hf51_6 : Cond.fieldLink RX10 51 "KeyOnStreet$Page" (TX6 1).2.1 (TX6 1).2.2.1 ∈ wsX10_digest := by decide +kernel
  have hi6 : ∀ w ∈ u_ws RX6 TX6 2, w ∈ wsX10_digest := by decide +kernel
  have hk202 : Cond.constantLong RX10 202 (31) ∈ wsX10_digest := by decide +kernel
  have hd_X10_count : yX10_count.cls = RX10 ∧ yX10_count.cls ≠ "java/lang/invoke/MethodHandle" ∧ yX10_count.cls ≠ "java/lang/invoke/VarHandle" ∧ (parseMethodDescriptor yX10_count.desc).map (fun d => d.parameters.length) = some 1 := by decide +kernel
  have hd_X6_codeAt : yX6_codeAt.cls = RX6 ∧ yX6_codeAt.cls ≠ "java/lang/invoke/MethodHandle" ∧ yX6_codeAt.cls ≠ "java/lang/invoke/VarHandle" ∧ (parseMethodDescriptor yX6_codeAt.desc).map (fun d => d.parameters.length) = some 1 := by decide +kernel
  have hd_X10_withWhatWouldBe : yX10_withWhatWouldBe.cls = RX10 ∧ yX10_withWhatWouldBe.cls ≠ "java/lang/invoke/MethodHandle" ∧ yX10_withWhatWouldBe.cls ≠ "java/lang/invoke/VarHandle" ∧ (parseMethodDescriptor yX10_withWhatWouldBe.desc).map (fun d => d.parameters.length) = some 1 := by decide +kernel
  have hd_X10_toldOf : yX10_toldOf.cls = RX10 ∧ yX10_toldOf.cls ≠ "java/lang/invoke/MethodHandle" ∧ yX10_toldOf.cls ≠ "java/lang/invoke/VarHandle" ∧ (parseMethodDescriptor yX10_toldOf.desc).map (fun d => d.parameters.length) = some 2 := by decide +kernel
  refine q_ldc2 F hk200 dX10_digest_0 ?_
  refine q_lstore_n F (lv' := [(1, .long (823 : Int64)), (0, .ref x)]) dX10_digest_3 (by decide) rfl ?_
  refine q_iconst F dX10_digest_4 (v := nI 0) (by decide) ?_
  refine q_istore_n F (lv' := [(3, .int (nI 0)), (1, .long (823 : Int64)), (0, .ref x)]) dX10_digest_5 (by decide) rfl ?_
  have lb6 : ∀ (fu : Nat) (i : Nat) (hi : i ≤ tN T), tN T - i < fu → gW p_ l e_ (rmL 22 0 0) s_ m_ args_ below_ meth_ c_ E A_ 5 (MQ below_ (gQ E A_ P_) args_ s_ 0 0 A_) 6 [(0, .ref x), (1, .long (dyO T B i)), (3, .int (nI i))] [] (oC x (q 0) (t 0) (a 0) (k 0) (u 0) (r 0) g ++ (pC E q n pf ++ (tC E t T ++ (nC E a (t 0) (nI sk) B ++ (kC (a 1) kp km ku ++ (nC E k (t 0) sn1 B1 ++ (kC (k 1) kp1 km1 ku1 ++ (nC E u (t 0) sn2 B2 ++ (kC (u 1) kp2 km2 ku2 ++ (rC E r (t 0) kd rg O BO ++ (ksC kd P M U ++ tl))))))))))) 0 0 := by
    intro fu_6
    induction fu_6 with
    | zero => intro i hi hfu; exact absurd hfu (Nat.not_lt_zero _)
    | succ fu_6 ih_6 =>
      intro i hi hfu_6
      refine q_iload_n F 2 dX10_digest_6 rfl ?_
      refine q_aload_n F 0 dX10_digest_7 rfl ?_
      refine q_get F (ci := 10) (j := 1) (v := .ref (t 0)) (List.mem_append_left _ (List.mem_of_getElem? (i := 0) rfl)) rfl hi10 (by decide) hf21_10 rfl rfl dX10_digest_8 ?_
      refine q_get F (ci := 8) (j := 2) (v := .int (nI (tN T))) (List.mem_append_right _ (List.mem_append_right _ (List.mem_append_left _ (List.mem_of_getElem? (i := 0) rfl)))) rfl hi8 (by decide) hf77_8 rfl rfl dX10_digest_11 ?_
      refine q_icmp_ge F (tgt := 54) dX10_digest_14 (by decide) (fun h_14 => ?_) (fun h_14 => ?_)
      · skip
        have hn_14 : i ≥ (tN T) := nf_ge_t (by omega) (by omega) h_14
        obtain rfl : i = (tN T) := by omega
        refine q_aload_n F 0 dX10_digest_54 rfl ?_
        refine q_perm pf10 ?_
        refine q_perm pf10 ?_
        refine q_perm pf10 ?_
        refine q_perm pf10 ?_
        refine q_perm pf10 ?_
        refine q_perm pf10 ?_
        refine q_perm pf10 ?_
        refine q_perm pf10 ?_
        refine q_perm pf10 ?_
        refine q_perm pf10 ?_
        refine q_perm pf10 ?_
        refine q_callV F (ci := 10) (As := []) (rest := []) (List.mem_append_left _ (List.mem_of_getElem? (i := 0) rfl)) rfl (c_X10_hasTown l E x q t a k u r kd T g n pf (nI sk) B kp km ku sn1 B1 kp1 km1 ku1 sn2 B2 kp2 km2 ku2 rg O BO P M U tl hH hn hq ) (List.Perm.refl _) gX10_digest_X10_hasTown rfl rfl rfl hd_X10_hasTown ⟨by decide, by decide⟩ rfl (Nat.le_of_ble_eq_true rfl) dX10_digest_55 ⟨Nat.le_of_ble_eq_true rfl, Nat.le_of_ble_eq_true rfl⟩ (fun v_ w_ hvw => ?_)
        rw [hvw.1, hvw.2]
        clear hvw
        refine q_at (pc' := 58) (st' := [.int (bI (decide (¬ tN T = 0)))]) (ws' := oC x (q 0) (t 0) (a 0) (k 0) (u 0) (r 0) g ++ (pC E q n pf ++ (tC E t T ++ (nC E a (t 0) (nI sk) B ++ (kC (a 1) kp km ku ++ (nC E k (t 0) sn1 B1 ++ (kC (k 1) kp1 km1 ku1 ++ (nC E u (t 0) sn2 B2 ++ (kC (u 1) kp2 km2 ku2 ++ (rC E r (t 0) kd rg O BO ++ (ksC kd P M U ++ tl))))))))))) (k' := 0) (n' := 0) rfl rfl rfl rfl rfl ?_
        refine q_if_eq F (tgt := 67) dX10_digest_58 (by decide) (fun h_58 => ?_) (fun h_58 => ?_)
        · skip
          have hb_58 := bI_0 h_58
          refine q_iconst F dX10_digest_67 (v := nI 0) (by decide) ?_
          refine q_istore_n F (lv' := [(3, .int (nI 0)), (0, .ref x), (1, .long (dyO T B (tN T)))]) dX10_digest_68 (by decide) rfl ?_
          have lb69 : ∀ (fu : Nat) (k_ : Nat) (g9 : Nat → Int32) (sn9 : Int32) (B9 : Nat → Nat → Int32) (kp9 : Int32) (km9 : Int32) (ku9 : Int32) (rg9 : Nat → Int32) (O9 : Nat → Int32) (BO9 : Nat → Int32) (P9 : Nat → Int32) (M9 : Nat → Int32) (U9 : Nat → Int32) (hk_ : k_ ≤ n) (h96 : g9 6 = g 6) (h97 : g9 7 = g 7) (h98 : g9 8 = g 8), n - k_ < fu → gW p_ l e_ (rmL 22 0 0) s_ m_ args_ below_ meth_ c_ E A_ 5 (MQ below_ (gQ E A_ P_) args_ s_ 0 0 A_) 69 [(0, .ref x), (1, .long (syP pf (dyT T (B, kp, km, ku) sk (dfC T true true 7 (shN (B 2)) kp km ku (nI 0) 0 O (ac0 BO))) k_)), (3, .int (nI k_))] [] (oC x (q 0) (t 0) (a 0) (k 0) (u 0) (r 0) g9 ++ (pC E q n pf ++ (tC E t T ++ (nC E a (t 0) (nI sk) B ++ (kC (a 1) kp km ku ++ (nC E k (t 0) sn1 B1 ++ (kC (k 1) kp1 km1 ku1 ++ (nC E u (t 0) sn9 B9 ++ (kC (u 1) kp9 km9 ku9 ++ (rC E r (t 0) kd rg9 O9 BO9 ++ (ksC kd P9 M9 U9 ++ tl))))))))))) 0 0 := by
            intro fu_69
            induction fu_69 with
            | zero => intro k_ g9 sn9 B9 kp9 km9 ku9 rg9 O9 BO9 P9 M9 U9 hk_ h96 h97 h98 hfu; exact absurd hfu (Nat.not_lt_zero _)
            | succ fu_69 ih_69 =>
              intro k_ g9 sn9 B9 kp9 km9 ku9 rg9 O9 BO9 P9 M9 U9 hk_ h96 h97 h98 hfu_69
              refine q_iload_n F 2 dX10_digest_69 rfl ?_
              refine q_aload_n F 0 dX10_digest_70 rfl ?_
              refine q_get F (ci := 10) (j := 0) (v := .ref (q 0)) (List.mem_append_left _ (List.mem_of_getElem? (i := 0) rfl)) rfl hi10 (by decide) hf12_10 rfl rfl dX10_digest_71 ?_
              refine q_get F (ci := 6) (j := 1) (v := .int (nI n)) (List.mem_append_right _ (List.mem_append_left _ (List.mem_of_getElem? (i := 0) rfl))) rfl hi6 (by decide) hf51_6 rfl rfl dX10_digest_74 ?_
              refine q_icmp_ge F (tgt := 102) dX10_digest_77 (by decide) (fun h_77 => ?_) (fun h_77 => ?_)
              · skip
                have hn_77 : k_ ≥ n := nf_ge_t (by omega) (by omega) h_77
                obtain rfl : n = k_ := by omega
                refine q_iconst F dX10_digest_102 (v := nI 0) (by decide) ?_
                refine q_istore_n F (lv' := [(3, .int (nI 0)), (0, .ref x), (1, .long (syP pf (dyT T (B, kp, km, ku) sk (dfC T true true 7 (shN (B 2)) kp km ku (nI 0) 0 O (ac0 BO))) n))]) dX10_digest_103 (by decide) rfl ?_
                have lb104 : ∀ (fu : Nat) (m : Nat) (hm11 : m ≤ 11), 11 - m < fu → gW p_ l e_ (rmL 22 0 0) s_ m_ args_ below_ meth_ c_ E A_ 5 (MQ below_ (gQ E A_ P_) args_ s_ 0 0 A_) 104 [(0, .ref x), (1, .long (dyN (cnC T g n (nI sk) B kp km ku) (syP pf (dyT T (B, kp, km, ku) sk (dfC T true true 7 (shN (B 2)) kp km ku (nI 0) 0 O (ac0 BO))) n) m)), (3, .int (nI m))] [] (oC x (q 0) (t 0) (a 0) (k 0) (u 0) (r 0) g9 ++ (pC E q n pf ++ (tC E t T ++ (nC E a (t 0) (nI sk) B ++ (kC (a 1) kp km ku ++ (nC E k (t 0) sn1 B1 ++ (kC (k 1) kp1 km1 ku1 ++ (nC E u (t 0) sn9 B9 ++ (kC (u 1) kp9 km9 ku9 ++ (rC E r (t 0) kd rg9 O9 BO9 ++ (ksC kd P9 M9 U9 ++ tl))))))))))) 0 0 := by
                  intro fu_104
                  induction fu_104 with
                  | zero => intro m hm11 hfu; exact absurd hfu (Nat.not_lt_zero _)
                  | succ fu_104 ih_104 =>
                    intro m hm11 hfu_104
                    refine q_iload_n F 2 dX10_digest_104 rfl ?_
                    refine q_bipush F dX10_digest_105 (v := nI 10) (by decide) ?_
                    refine q_icmp_gt F (tgt := 129) dX10_digest_107 (by decide) (fun h_107 => ?_) (fun h_107 => ?_)
                    · skip
                      have hn_107 : m > 10 := nf_gt_t (by omega) (by omega) h_107
                      obtain rfl : m = 11 := by omega
                      refine q_lload_n F 1 dX10_digest_129 rfl ?_
                      refine q_perm pf10 ?_
                      refine q_perm pf10 ?_
                      refine q_perm pf10 ?_
                      refine q_perm pf10 ?_
                      refine q_perm pf10 ?_
                      refine q_perm pf10 ?_
                      refine q_perm pf10 ?_
                      refine q_perm pf10 ?_
                      refine q_perm pf10 ?_
                      refine q_perm pf10 ?_
                      refine q_perm pf10 ?_
                      exact q_lret F hr_ dX10_digest_130 (hp_ _ _ ⟨dyN (cnC T g n (nI sk) B kp km ku) (syP pf (dyT T (B, kp, km, ku) sk (dfC T true true 7 (shN (B 2)) kp km ku (nI 0) 0 O (ac0 BO))) n) 11, ((T, n, pf, g9, (nI sk, B, kp, km, ku), (sn1, B1, kp1, km1, ku1), (sn9, B9, kp9, km9, ku9), (rg9, O9, BO9, P9, M9, U9)) : gSt), rfl, rfl, g9, sn9, B9, kp9, km9, ku9, rg9, O9, BO9, P9, M9, U9, rfl, h96, h97, h98, rfl⟩)
                    · skip
                      have hn_107 : m ≤ 10 := nf_gt_f (by omega) (by omega) h_107
                      refine q_ldc2 F hk202 dX10_digest_110 ?_
                      refine q_lload_n F 1 dX10_digest_113 rfl ?_
                      refine q_lmul F dX10_digest_114 ?_
                      refine q_aload_n F 0 dX10_digest_115 rfl ?_
                      refine q_iload_n F 2 dX10_digest_116 rfl ?_
                      refine q_perm pf10 ?_
                      refine q_perm pf10 ?_
                      refine q_perm pf10 ?_
                      refine q_perm pf10 ?_
                      refine q_perm pf10 ?_
                      refine q_perm pf10 ?_
                      refine q_perm pf10 ?_
                      refine q_perm pf10 ?_
                      refine q_perm pf10 ?_
                      refine q_perm pf10 ?_
                      refine q_perm pf10 ?_
                      refine q_callV F (ci := 10) (As := [.int (nI m)]) (rest := [.long ((31 : Int64) * (dyN (cnC T g n (nI sk) B kp km ku) (syP pf (dyT T (B, kp, km, ku) sk (dfC T true true 7 (shN (B 2)) kp km ku (nI 0) 0 O (ac0 BO))) n) m))]) (List.mem_append_left _ (List.mem_of_getElem? (i := 0) rfl)) rfl (c_X10_count l E x q t a k u r kd T g9 n pf (nI sk) B kp km ku sn1 B1 kp1 km1 ku1 sn9 B9 kp9 km9 ku9 rg9 O9 BO9 P9 M9 U9 tl hH hn hq m (by omega)) (List.Perm.refl _) gX10_digest_X10_count rfl rfl rfl hd_X10_count ⟨by decide, by decide⟩ rfl (Nat.le_of_ble_eq_true rfl) dX10_digest_117 ⟨Nat.le_of_ble_eq_true rfl, Nat.le_of_ble_eq_true rfl⟩ (fun v_ w_ hvw => ?_)
                      rw [hvw.1, hvw.2]
                      clear hvw
                      refine q_at (pc' := 120) (st' := [.int (cnC T g9 n (nI sk) B kp km ku m), .long ((31 : Int64) * (dyN (cnC T g n (nI sk) B kp km ku) (syP pf (dyT T (B, kp, km, ku) sk (dfC T true true 7 (shN (B 2)) kp km ku (nI 0) 0 O (ac0 BO))) n) m))]) (ws' := oC x (q 0) (t 0) (a 0) (k 0) (u 0) (r 0) g9 ++ (pC E q n pf ++ (tC E t T ++ (nC E a (t 0) (nI sk) B ++ (kC (a 1) kp km ku ++ (nC E k (t 0) sn1 B1 ++ (kC (k 1) kp1 km1 ku1 ++ (nC E u (t 0) sn9 B9 ++ (kC (u 1) kp9 km9 ku9 ++ (rC E r (t 0) kd rg9 O9 BO9 ++ (ksC kd P9 M9 U9 ++ tl))))))))))) (k' := 0) (n' := 0) rfl rfl rfl rfl rfl ?_
                      refine q_toi (cnC T g n (nI sk) B kp km ku m) (cnC_g h97 h98 m) ?_
                      refine q_i2l F dX10_digest_120 ?_
                      refine q_ladd F dX10_digest_121 ?_
                      refine q_eq (st' := [.long (sy (dyN (cnC T g n (nI sk) B kp km ku) (syP pf (dyT T (B, kp, km, ku) sk (dfC T true true 7 (shN (B 2)) kp km ku (nI 0) 0 O (ac0 BO))) n) m) (cnC T g n (nI sk) B kp km ku m))]) rfl ?_
                      refine q_lstore_n F (lv' := [(1, .long (sy (dyN (cnC T g n (nI sk) B kp km ku) (syP pf (dyT T (B, kp, km, ku) sk (dfC T true true 7 (shN (B 2)) kp km ku (nI 0) 0 O (ac0 BO))) n) m) (cnC T g n (nI sk) B kp km ku m))), (0, .ref x), (3, .int (nI m))]) dX10_digest_122 (by decide) rfl ?_
                      refine q_iinc F 2 (v := nI (m + 1)) (lv' := [(3, .int (nI (m + 1))), (1, .long (sy (dyN (cnC T g n (nI sk) B kp km ku) (syP pf (dyT T (B, kp, km, ku) sk (dfC T true true 7 (shN (B 2)) kp km ku (nI 0) 0 O (ac0 BO))) n) m) (cnC T g n (nI sk) B kp km ku m))), (0, .ref x)]) dX10_digest_123 rfl (nI_1 _) (by decide) rfl ?_
                      refine q_goto F (tgt := 104) dX10_digest_126 (by decide) ?_
                      refine q_lv [2, 1, 0] (lv' := [(0, .ref x), (1, .long (sy (dyN (cnC T g n (nI sk) B kp km ku) (syP pf (dyT T (B, kp, km, ku) sk (dfC T true true 7 (shN (B 2)) kp km ku (nI 0) 0 O (ac0 BO))) n) m) (cnC T g n (nI sk) B kp km ku m))), (3, .int (nI (m + 1)))]) rfl ?_
                      refine q_perm pf10 ?_
                      refine q_perm pf10 ?_
                      refine q_perm pf10 ?_
                      refine q_perm pf10 ?_
                      refine q_perm pf10 ?_
                      refine q_perm pf10 ?_
                      refine q_perm pf10 ?_
                      refine q_perm pf10 ?_
                      refine q_perm pf10 ?_
                      refine q_perm pf10 ?_
                      refine q_perm pf10 ?_
                      refine q_to (lv' := [(0, .ref x), (1, .long (dyN (cnC T g n (nI sk) B kp km ku) (syP pf (dyT T (B, kp, km, ku) sk (dfC T true true 7 (shN (B 2)) kp km ku (nI 0) 0 O (ac0 BO))) n) (m + 1))), (3, .int (nI (m + 1)))]) (st' := []) (ws' := oC x (q 0) (t 0) (a 0) (k 0) (u 0) (r 0) g9 ++ (pC E q n pf ++ (tC E t T ++ (nC E a (t 0) (nI sk) B ++ (kC (a 1) kp km ku ++ (nC E k (t 0) sn1 B1 ++ (kC (k 1) kp1 km1 ku1 ++ (nC E u (t 0) sn9 B9 ++ (kC (u 1) kp9 km9 ku9 ++ (rC E r (t 0) kd rg9 O9 BO9 ++ (ksC kd P9 M9 U9 ++ tl))))))))))) (cE (vE (rfl)) (cE (vE (congrArg Value.long (by rw [dyN]))) (cE (vE (rfl)) rfl))) rfl rfl ?_
                      exact ih_104 (m + 1) (by omega) (by omega)
                refine q_lv [1, 2, 0] (lv' := [(0, .ref x), (1, .long (syP pf (dyT T (B, kp, km, ku) sk (dfC T true true 7 (shN (B 2)) kp km ku (nI 0) 0 O (ac0 BO))) n)), (3, .int (nI 0))]) rfl ?_
                refine q_perm pf10 ?_
                refine q_perm pf10 ?_
                refine q_perm pf10 ?_
                refine q_perm pf10 ?_
                refine q_perm pf10 ?_
                refine q_perm pf10 ?_
                refine q_perm pf10 ?_
                refine q_perm pf10 ?_
                refine q_perm pf10 ?_
                refine q_perm pf10 ?_
                refine q_perm pf10 ?_
                refine q_to (lv' := [(0, .ref x), (1, .long (dyN (cnC T g n (nI sk) B kp km ku) (syP pf (dyT T (B, kp, km, ku) sk (dfC T true true 7 (shN (B 2)) kp km ku (nI 0) 0 O (ac0 BO))) n) 0)), (3, .int (nI 0))]) (st' := []) (ws' := oC x (q 0) (t 0) (a 0) (k 0) (u 0) (r 0) g9 ++ (pC E q n pf ++ (tC E t T ++ (nC E a (t 0) (nI sk) B ++ (kC (a 1) kp km ku ++ (nC E k (t 0) sn1 B1 ++ (kC (k 1) kp1 km1 ku1 ++ (nC E u (t 0) sn9 B9 ++ (kC (u 1) kp9 km9 ku9 ++ (rC E r (t 0) kd rg9 O9 BO9 ++ (ksC kd P9 M9 U9 ++ tl))))))))))) (cE (vE (rfl)) (cE (vE (congrArg Value.long (by rw [dyN]))) (cE (vE (rfl)) rfl))) rfl rfl ?_
                exact lb104 (11 - 0 + 1) 0 (by omega) (Nat.lt_succ_self _)
              · skip
                have hn_77 : k_ < n := nf_ge_f (by omega) (by omega) h_77
                refine q_ldc2 F hk202 dX10_digest_80 ?_
                refine q_lload_n F 1 dX10_digest_83 rfl ?_
                refine q_lmul F dX10_digest_84 ?_
                refine q_aload_n F 0 dX10_digest_85 rfl ?_
                refine q_get F (ci := 10) (j := 0) (v := .ref (q 0)) (List.mem_append_left _ (List.mem_of_getElem? (i := 0) rfl)) rfl hi10 (by decide) hf12_10 rfl rfl dX10_digest_86 ?_
                refine q_iload_n F 2 dX10_digest_89 rfl ?_
                refine q_callV F (ci := 6) (As := [.int (nI k_)]) (rest := [.long ((31 : Int64) * (syP pf (dyT T (B, kp, km, ku) sk (dfC T true true 7 (shN (B 2)) kp km ku (nI 0) 0 O (ac0 BO))) k_))]) (List.mem_append_right _ (List.mem_append_left _ (List.mem_of_getElem? (i := 0) rfl))) rfl (c_X6_codeAt l E q n pf (oC x (q 0) (t 0) (a 0) (k 0) (u 0) (r 0) g9 ++ (pC E q n pf ++ (tC E t T ++ (nC E a (t 0) (nI sk) B ++ (kC (a 1) kp km ku ++ (nC E k (t 0) sn1 B1 ++ (kC (k 1) kp1 km1 ku1 ++ (nC E u (t 0) sn9 B9 ++ (kC (u 1) kp9 km9 ku9 ++ (rC E r (t 0) kd rg9 O9 BO9 ++ (ksC kd P9 M9 U9 ++ tl))))))))))) (isIn.r _ (isIn.l _ _)) hq k_ (by omega)) (List.Perm.refl _) gX10_digest_X6_codeAt rfl rfl rfl hd_X6_codeAt ⟨by decide, by decide⟩ rfl (Nat.le_of_ble_eq_true rfl) dX10_digest_90 ⟨Nat.le_of_ble_eq_true rfl, Nat.le_of_ble_eq_true rfl⟩ (fun v_ w_ hvw => ?_)
                rw [hvw.1, hvw.2]
                clear hvw
                refine q_at (pc' := 93) (st' := [.int (pf k_), .long ((31 : Int64) * (syP pf (dyT T (B, kp, km, ku) sk (dfC T true true 7 (shN (B 2)) kp km ku (nI 0) 0 O (ac0 BO))) k_))]) (ws' := oC x (q 0) (t 0) (a 0) (k 0) (u 0) (r 0) g9 ++ (pC E q n pf ++ (tC E t T ++ (nC E a (t 0) (nI sk) B ++ (kC (a 1) kp km ku ++ (nC E k (t 0) sn1 B1 ++ (kC (k 1) kp1 km1 ku1 ++ (nC E u (t 0) sn9 B9 ++ (kC (u 1) kp9 km9 ku9 ++ (rC E r (t 0) kd rg9 O9 BO9 ++ (ksC kd P9 M9 U9 ++ tl))))))))))) (k' := 0) (n' := 0) rfl rfl rfl rfl rfl ?_
                refine q_i2l F dX10_digest_93 ?_
                refine q_ladd F dX10_digest_94 ?_
                refine q_eq (st' := [.long (sy (syP pf (dyT T (B, kp, km, ku) sk (dfC T true true 7 (shN (B 2)) kp km ku (nI 0) 0 O (ac0 BO))) k_) (pf k_))]) rfl ?_
                refine q_lstore_n F (lv' := [(1, .long (sy (syP pf (dyT T (B, kp, km, ku) sk (dfC T true true 7 (shN (B 2)) kp km ku (nI 0) 0 O (ac0 BO))) k_) (pf k_))), (0, .ref x), (3, .int (nI k_))]) dX10_digest_95 (by decide) rfl ?_
                refine q_iinc F 2 (v := nI (k_ + 1)) (lv' := [(3, .int (nI (k_ + 1))), (1, .long (sy (syP pf (dyT T (B, kp, km, ku) sk (dfC T true true 7 (shN (B 2)) kp km ku (nI 0) 0 O (ac0 BO))) k_) (pf k_))), (0, .ref x)]) dX10_digest_96 rfl (nI_1 _) (by decide) rfl ?_
                refine q_goto F (tgt := 69) dX10_digest_99 (by decide) ?_
                refine q_lv [2, 1, 0] (lv' := [(0, .ref x), (1, .long (sy (syP pf (dyT T (B, kp, km, ku) sk (dfC T true true 7 (shN (B 2)) kp km ku (nI 0) 0 O (ac0 BO))) k_) (pf k_))), (3, .int (nI (k_ + 1)))]) rfl ?_
                refine q_perm pf10 ?_
                refine q_perm pf10 ?_
                refine q_perm pf10 ?_
                refine q_perm pf10 ?_
                refine q_perm pf10 ?_
                refine q_perm pf10 ?_
                refine q_perm pf10 ?_
                refine q_perm pf10 ?_
                refine q_perm pf10 ?_
                refine q_perm pf10 ?_
                refine q_perm pf10 ?_
                refine q_to (lv' := [(0, .ref x), (1, .long (syP pf (dyT T (B, kp, km, ku) sk (dfC T true true 7 (shN (B 2)) kp km ku (nI 0) 0 O (ac0 BO))) (k_ + 1))), (3, .int (nI (k_ + 1)))]) (st' := []) (ws' := oC x (q 0) (t 0) (a 0) (k 0) (u 0) (r 0) g9 ++ (pC E q n pf ++ (tC E t T ++ (nC E a (t 0) (nI sk) B ++ (kC (a 1) kp km ku ++ (nC E k (t 0) sn1 B1 ++ (kC (k 1) kp1 km1 ku1 ++ (nC E u (t 0) sn9 B9 ++ (kC (u 1) kp9 km9 ku9 ++ (rC E r (t 0) kd rg9 O9 BO9 ++ (ksC kd P9 M9 U9 ++ tl))))))))))) (cE (vE (rfl)) (cE (vE (congrArg Value.long (by rw [syP]))) (cE (vE (rfl)) rfl))) rfl rfl ?_
                exact ih_69 (k_ + 1) g9 sn9 B9 kp9 km9 ku9 rg9 O9 BO9 P9 M9 U9 (by omega) (h96) (h97) (h98) (by omega)
          refine q_lv [1, 2, 0] (lv' := [(0, .ref x), (1, .long (dyO T B (tN T))), (3, .int (nI 0))]) rfl ?_
          refine q_perm pf10 ?_
          refine q_perm pf10 ?_
          refine q_perm pf10 ?_
          refine q_perm pf10 ?_
          refine q_perm pf10 ?_
          refine q_perm pf10 ?_
          refine q_perm pf10 ?_
          refine q_perm pf10 ?_
          refine q_perm pf10 ?_
          refine q_perm pf10 ?_
          refine q_perm pf10 ?_
          refine q_to (lv' := [(0, .ref x), (1, .long (syP pf (dyT T (B, kp, km, ku) sk (dfC T true true 7 (shN (B 2)) kp km ku (nI 0) 0 O (ac0 BO))) 0)), (3, .int (nI 0))]) (st' := []) (ws' := oC x (q 0) (t 0) (a 0) (k 0) (u 0) (r 0) g ++ (pC E q n pf ++ (tC E t T ++ (nC E a (t 0) (nI sk) B ++ (kC (a 1) kp km ku ++ (nC E k (t 0) sn1 B1 ++ (kC (k 1) kp1 km1 ku1 ++ (nC E u (t 0) sn2 B2 ++ (kC (u 1) kp2 km2 ku2 ++ (rC E r (t 0) kd rg O BO ++ (ksC kd P M U ++ tl))))))))))) (cE (vE (rfl)) (cE (vE (congrArg Value.long (by rw [syP, dyT_0 (by simpa using hb_58)]))) (cE (vE (rfl)) rfl))) rfl rfl ?_
          exact lb69 (n - 0 + 1) 0 g sn2 B2 kp2 km2 ku2 rg O BO P M U (by omega) (rfl) (rfl) (rfl) (Nat.lt_succ_self _)
        · skip
          have hb_58 := bI_1 h_58
          refine q_aload_n F 0 dX10_digest_61 rfl ?_
          refine q_lload_n F 1 dX10_digest_62 rfl ?_
          refine q_perm pf10 ?_
          refine q_perm pf10 ?_
          refine q_perm pf10 ?_
          refine q_perm pf10 ?_
          refine q_perm pf10 ?_
          refine q_perm pf10 ?_
          refine q_perm pf10 ?_
          refine q_perm pf10 ?_
          refine q_perm pf10 ?_
          refine q_perm pf10 ?_
          refine q_perm pf10 ?_
          refine q_callV F (ci := 10) (As := [.long (dyO T B (tN T))]) (rest := []) (List.mem_append_left _ (List.mem_of_getElem? (i := 0) rfl)) rfl (c_X10_withWhatWouldBe l E x q t a k u r kd T g n pf sk hk6 B kp km ku sn1 B1 kp1 km1 ku1 sn2 B2 kp2 km2 ku2 rg O BO P M U tl hH hn hq hz hB (dyO T B (tN T))) (List.Perm.refl _) gX10_digest_X10_withWhatWouldBe rfl rfl rfl hd_X10_withWhatWouldBe ⟨by decide, by decide⟩ rfl (Nat.le_of_ble_eq_true rfl) dX10_digest_63 ⟨Nat.le_of_ble_eq_true rfl, Nat.le_of_ble_eq_true rfl⟩ (fun v_ w_ hvw => ?_)
          obtain ⟨hv_, w0, w1, w2, w3, w4, w5, w6, w7, w8, w9, w10, hw_⟩ := hvw
          rw [hv_, hw_]
          clear hv_ hw_
          refine q_at (pc' := 66) (st' := [.long (wyE T (B, kp, km, ku) sk (dfC T true true 7 (shN (B 2)) kp km ku (nI 0) 0 O (ac0 BO)) (dyO T B (tN T)))]) (ws' := oC x (q 0) (t 0) (a 0) (k 0) (u 0) (r 0) (upd (upd g 9 (gsC T B sk 30).1) 10 (gsC T B sk 30).2) ++ (pC E q n pf ++ (tC E t T ++ (nC E a (t 0) (nI sk) B ++ (kC (a 1) kp km ku ++ (nC E k (t 0) sn1 B1 ++ (kC (k 1) kp1 km1 ku1 ++ (nC E u (t 0) w0 w1 ++ (kC (u 1) w2 w3 w4 ++ (rC E r (t 0) kd w5 w6 w7 ++ (ksC kd w8 w9 w10 ++ tl))))))))))) (k' := 0) (n' := 0) rfl rfl rfl rfl rfl ?_
          refine q_lstore_n F (lv' := [(1, .long (wyE T (B, kp, km, ku) sk (dfC T true true 7 (shN (B 2)) kp km ku (nI 0) 0 O (ac0 BO)) (dyO T B (tN T)))), (0, .ref x), (3, .int (nI (tN T)))]) dX10_digest_66 (by decide) rfl ?_
          refine q_iconst F dX10_digest_67 (v := nI 0) (by decide) ?_
          refine q_istore_n F (lv' := [(3, .int (nI 0)), (1, .long (wyE T (B, kp, km, ku) sk (dfC T true true 7 (shN (B 2)) kp km ku (nI 0) 0 O (ac0 BO)) (dyO T B (tN T)))), (0, .ref x)]) dX10_digest_68 (by decide) rfl ?_
          have lb69 : ∀ (fu : Nat) (k_ : Nat) (g9 : Nat → Int32) (sn9 : Int32) (B9 : Nat → Nat → Int32) (kp9 : Int32) (km9 : Int32) (ku9 : Int32) (rg9 : Nat → Int32) (O9 : Nat → Int32) (BO9 : Nat → Int32) (P9 : Nat → Int32) (M9 : Nat → Int32) (U9 : Nat → Int32) (hk_ : k_ ≤ n) (h96 : g9 6 = g 6) (h97 : g9 7 = g 7) (h98 : g9 8 = g 8), n - k_ < fu → gW p_ l e_ (rmL 22 0 0) s_ m_ args_ below_ meth_ c_ E A_ 5 (MQ below_ (gQ E A_ P_) args_ s_ 0 0 A_) 69 [(0, .ref x), (1, .long (syP pf (dyT T (B, kp, km, ku) sk (dfC T true true 7 (shN (B 2)) kp km ku (nI 0) 0 O (ac0 BO))) k_)), (3, .int (nI k_))] [] (oC x (q 0) (t 0) (a 0) (k 0) (u 0) (r 0) g9 ++ (pC E q n pf ++ (tC E t T ++ (nC E a (t 0) (nI sk) B ++ (kC (a 1) kp km ku ++ (nC E k (t 0) sn1 B1 ++ (kC (k 1) kp1 km1 ku1 ++ (nC E u (t 0) sn9 B9 ++ (kC (u 1) kp9 km9 ku9 ++ (rC E r (t 0) kd rg9 O9 BO9 ++ (ksC kd P9 M9 U9 ++ tl))))))))))) 0 0 := by
            intro fu_69
            induction fu_69 with
            | zero => intro k_ g9 sn9 B9 kp9 km9 ku9 rg9 O9 BO9 P9 M9 U9 hk_ h96 h97 h98 hfu; exact absurd hfu (Nat.not_lt_zero _)
            | succ fu_69 ih_69 =>
              intro k_ g9 sn9 B9 kp9 km9 ku9 rg9 O9 BO9 P9 M9 U9 hk_ h96 h97 h98 hfu_69
              refine q_iload_n F 2 dX10_digest_69 rfl ?_
              refine q_aload_n F 0 dX10_digest_70 rfl ?_
              refine q_get F (ci := 10) (j := 0) (v := .ref (q 0)) (List.mem_append_left _ (List.mem_of_getElem? (i := 0) rfl)) rfl hi10 (by decide) hf12_10 rfl rfl dX10_digest_71 ?_
              refine q_get F (ci := 6) (j := 1) (v := .int (nI n)) (List.mem_append_right _ (List.mem_append_left _ (List.mem_of_getElem? (i := 0) rfl))) rfl hi6 (by decide) hf51_6 rfl rfl dX10_digest_74 ?_
              refine q_icmp_ge F (tgt := 102) dX10_digest_77 (by decide) (fun h_77 => ?_) (fun h_77 => ?_)
              · skip
                have hn_77 : k_ ≥ n := nf_ge_t (by omega) (by omega) h_77
                obtain rfl : n = k_ := by omega
                refine q_iconst F dX10_digest_102 (v := nI 0) (by decide) ?_
                refine q_istore_n F (lv' := [(3, .int (nI 0)), (0, .ref x), (1, .long (syP pf (dyT T (B, kp, km, ku) sk (dfC T true true 7 (shN (B 2)) kp km ku (nI 0) 0 O (ac0 BO))) n))]) dX10_digest_103 (by decide) rfl ?_
                have lb104 : ∀ (fu : Nat) (m : Nat) (hm11 : m ≤ 11), 11 - m < fu → gW p_ l e_ (rmL 22 0 0) s_ m_ args_ below_ meth_ c_ E A_ 5 (MQ below_ (gQ E A_ P_) args_ s_ 0 0 A_) 104 [(0, .ref x), (1, .long (dyN (cnC T g n (nI sk) B kp km ku) (syP pf (dyT T (B, kp, km, ku) sk (dfC T true true 7 (shN (B 2)) kp km ku (nI 0) 0 O (ac0 BO))) n) m)), (3, .int (nI m))] [] (oC x (q 0) (t 0) (a 0) (k 0) (u 0) (r 0) g9 ++ (pC E q n pf ++ (tC E t T ++ (nC E a (t 0) (nI sk) B ++ (kC (a 1) kp km ku ++ (nC E k (t 0) sn1 B1 ++ (kC (k 1) kp1 km1 ku1 ++ (nC E u (t 0) sn9 B9 ++ (kC (u 1) kp9 km9 ku9 ++ (rC E r (t 0) kd rg9 O9 BO9 ++ (ksC kd P9 M9 U9 ++ tl))))))))))) 0 0 := by
                  intro fu_104
                  induction fu_104 with
                  | zero => intro m hm11 hfu; exact absurd hfu (Nat.not_lt_zero _)
                  | succ fu_104 ih_104 =>
                    intro m hm11 hfu_104
                    refine q_iload_n F 2 dX10_digest_104 rfl ?_
                    refine q_bipush F dX10_digest_105 (v := nI 10) (by decide) ?_
                    refine q_icmp_gt F (tgt := 129) dX10_digest_107 (by decide) (fun h_107 => ?_) (fun h_107 => ?_)
                    · skip
                      have hn_107 : m > 10 := nf_gt_t (by omega) (by omega) h_107
                      obtain rfl : m = 11 := by omega
                      refine q_lload_n F 1 dX10_digest_129 rfl ?_
                      refine q_perm pf10 ?_
                      refine q_perm pf10 ?_
                      refine q_perm pf10 ?_
                      refine q_perm pf10 ?_
                      refine q_perm pf10 ?_
                      refine q_perm pf10 ?_
                      refine q_perm pf10 ?_
                      refine q_perm pf10 ?_
                      refine q_perm pf10 ?_
                      refine q_perm pf10 ?_
                      refine q_perm pf10 ?_
                      exact q_lret F hr_ dX10_digest_130 (hp_ _ _ ⟨dyN (cnC T g n (nI sk) B kp km ku) (syP pf (dyT T (B, kp, km, ku) sk (dfC T true true 7 (shN (B 2)) kp km ku (nI 0) 0 O (ac0 BO))) n) 11, ((T, n, pf, g9, (nI sk, B, kp, km, ku), (sn1, B1, kp1, km1, ku1), (sn9, B9, kp9, km9, ku9), (rg9, O9, BO9, P9, M9, U9)) : gSt), rfl, rfl, g9, sn9, B9, kp9, km9, ku9, rg9, O9, BO9, P9, M9, U9, rfl, h96, h97, h98, rfl⟩)
                    · skip
                      have hn_107 : m ≤ 10 := nf_gt_f (by omega) (by omega) h_107
                      refine q_ldc2 F hk202 dX10_digest_110 ?_
                      refine q_lload_n F 1 dX10_digest_113 rfl ?_
                      refine q_lmul F dX10_digest_114 ?_
                      refine q_aload_n F 0 dX10_digest_115 rfl ?_
                      refine q_iload_n F 2 dX10_digest_116 rfl ?_
                      refine q_perm pf10 ?_
                      refine q_perm pf10 ?_
                      refine q_perm pf10 ?_
                      refine q_perm pf10 ?_
                      refine q_perm pf10 ?_
                      refine q_perm pf10 ?_
                      refine q_perm pf10 ?_
                      refine q_perm pf10 ?_
                      refine q_perm pf10 ?_
                      refine q_perm pf10 ?_
                      refine q_perm pf10 ?_
                      refine q_callV F (ci := 10) (As := [.int (nI m)]) (rest := [.long ((31 : Int64) * (dyN (cnC T g n (nI sk) B kp km ku) (syP pf (dyT T (B, kp, km, ku) sk (dfC T true true 7 (shN (B 2)) kp km ku (nI 0) 0 O (ac0 BO))) n) m))]) (List.mem_append_left _ (List.mem_of_getElem? (i := 0) rfl)) rfl (c_X10_count l E x q t a k u r kd T g9 n pf (nI sk) B kp km ku sn1 B1 kp1 km1 ku1 sn9 B9 kp9 km9 ku9 rg9 O9 BO9 P9 M9 U9 tl hH hn hq m (by omega)) (List.Perm.refl _) gX10_digest_X10_count rfl rfl rfl hd_X10_count ⟨by decide, by decide⟩ rfl (Nat.le_of_ble_eq_true rfl) dX10_digest_117 ⟨Nat.le_of_ble_eq_true rfl, Nat.le_of_ble_eq_true rfl⟩ (fun v_ w_ hvw => ?_)
                      rw [hvw.1, hvw.2]
                      clear hvw
                      refine q_at (pc' := 120) (st' := [.int (cnC T g9 n (nI sk) B kp km ku m), .long ((31 : Int64) * (dyN (cnC T g n (nI sk) B kp km ku) (syP pf (dyT T (B, kp, km, ku) sk (dfC T true true 7 (shN (B 2)) kp km ku (nI 0) 0 O (ac0 BO))) n) m))]) (ws' := oC x (q 0) (t 0) (a 0) (k 0) (u 0) (r 0) g9 ++ (pC E q n pf ++ (tC E t T ++ (nC E a (t 0) (nI sk) B ++ (kC (a 1) kp km ku ++ (nC E k (t 0) sn1 B1 ++ (kC (k 1) kp1 km1 ku1 ++ (nC E u (t 0) sn9 B9 ++ (kC (u 1) kp9 km9 ku9 ++ (rC E r (t 0) kd rg9 O9 BO9 ++ (ksC kd P9 M9 U9 ++ tl))))))))))) (k' := 0) (n' := 0) rfl rfl rfl rfl rfl ?_
                      refine q_toi (cnC T g n (nI sk) B kp km ku m) (cnC_g h97 h98 m) ?_
                      refine q_i2l F dX10_digest_120 ?_
                      refine q_ladd F dX10_digest_121 ?_
                      refine q_eq (st' := [.long (sy (dyN (cnC T g n (nI sk) B kp km ku) (syP pf (dyT T (B, kp, km, ku) sk (dfC T true true 7 (shN (B 2)) kp km ku (nI 0) 0 O (ac0 BO))) n) m) (cnC T g n (nI sk) B kp km ku m))]) rfl ?_
                      refine q_lstore_n F (lv' := [(1, .long (sy (dyN (cnC T g n (nI sk) B kp km ku) (syP pf (dyT T (B, kp, km, ku) sk (dfC T true true 7 (shN (B 2)) kp km ku (nI 0) 0 O (ac0 BO))) n) m) (cnC T g n (nI sk) B kp km ku m))), (0, .ref x), (3, .int (nI m))]) dX10_digest_122 (by decide) rfl ?_
                      refine q_iinc F 2 (v := nI (m + 1)) (lv' := [(3, .int (nI (m + 1))), (1, .long (sy (dyN (cnC T g n (nI sk) B kp km ku) (syP pf (dyT T (B, kp, km, ku) sk (dfC T true true 7 (shN (B 2)) kp km ku (nI 0) 0 O (ac0 BO))) n) m) (cnC T g n (nI sk) B kp km ku m))), (0, .ref x)]) dX10_digest_123 rfl (nI_1 _) (by decide) rfl ?_
                      refine q_goto F (tgt := 104) dX10_digest_126 (by decide) ?_
                      refine q_lv [2, 1, 0] (lv' := [(0, .ref x), (1, .long (sy (dyN (cnC T g n (nI sk) B kp km ku) (syP pf (dyT T (B, kp, km, ku) sk (dfC T true true 7 (shN (B 2)) kp km ku (nI 0) 0 O (ac0 BO))) n) m) (cnC T g n (nI sk) B kp km ku m))), (3, .int (nI (m + 1)))]) rfl ?_
                      refine q_perm pf10 ?_
                      refine q_perm pf10 ?_
                      refine q_perm pf10 ?_
                      refine q_perm pf10 ?_
                      refine q_perm pf10 ?_
                      refine q_perm pf10 ?_
                      refine q_perm pf10 ?_
                      refine q_perm pf10 ?_
                      refine q_perm pf10 ?_
                      refine q_perm pf10 ?_
                      refine q_perm pf10 ?_
                      refine q_to (lv' := [(0, .ref x), (1, .long (dyN (cnC T g n (nI sk) B kp km ku) (syP pf (dyT T (B, kp, km, ku) sk (dfC T true true 7 (shN (B 2)) kp km ku (nI 0) 0 O (ac0 BO))) n) (m + 1))), (3, .int (nI (m + 1)))]) (st' := []) (ws' := oC x (q 0) (t 0) (a 0) (k 0) (u 0) (r 0) g9 ++ (pC E q n pf ++ (tC E t T ++ (nC E a (t 0) (nI sk) B ++ (kC (a 1) kp km ku ++ (nC E k (t 0) sn1 B1 ++ (kC (k 1) kp1 km1 ku1 ++ (nC E u (t 0) sn9 B9 ++ (kC (u 1) kp9 km9 ku9 ++ (rC E r (t 0) kd rg9 O9 BO9 ++ (ksC kd P9 M9 U9 ++ tl))))))))))) (cE (vE (rfl)) (cE (vE (congrArg Value.long (by rw [dyN]))) (cE (vE (rfl)) rfl))) rfl rfl ?_
                      exact ih_104 (m + 1) (by omega) (by omega)
                refine q_lv [1, 2, 0] (lv' := [(0, .ref x), (1, .long (syP pf (dyT T (B, kp, km, ku) sk (dfC T true true 7 (shN (B 2)) kp km ku (nI 0) 0 O (ac0 BO))) n)), (3, .int (nI 0))]) rfl ?_
                refine q_perm pf10 ?_
                refine q_perm pf10 ?_
                refine q_perm pf10 ?_
                refine q_perm pf10 ?_
                refine q_perm pf10 ?_
                refine q_perm pf10 ?_
                refine q_perm pf10 ?_
                refine q_perm pf10 ?_
                refine q_perm pf10 ?_
                refine q_perm pf10 ?_
                refine q_perm pf10 ?_
                refine q_to (lv' := [(0, .ref x), (1, .long (dyN (cnC T g n (nI sk) B kp km ku) (syP pf (dyT T (B, kp, km, ku) sk (dfC T true true 7 (shN (B 2)) kp km ku (nI 0) 0 O (ac0 BO))) n) 0)), (3, .int (nI 0))]) (st' := []) (ws' := oC x (q 0) (t 0) (a 0) (k 0) (u 0) (r 0) g9 ++ (pC E q n pf ++ (tC E t T ++ (nC E a (t 0) (nI sk) B ++ (kC (a 1) kp km ku ++ (nC E k (t 0) sn1 B1 ++ (kC (k 1) kp1 km1 ku1 ++ (nC E u (t 0) sn9 B9 ++ (kC (u 1) kp9 km9 ku9 ++ (rC E r (t 0) kd rg9 O9 BO9 ++ (ksC kd P9 M9 U9 ++ tl))))))))))) (cE (vE (rfl)) (cE (vE (congrArg Value.long (by rw [dyN]))) (cE (vE (rfl)) rfl))) rfl rfl ?_
                exact lb104 (11 - 0 + 1) 0 (by omega) (Nat.lt_succ_self _)
              · skip
                have hn_77 : k_ < n := nf_ge_f (by omega) (by omega) h_77
                refine q_ldc2 F hk202 dX10_digest_80 ?_
                refine q_lload_n F 1 dX10_digest_83 rfl ?_
                refine q_lmul F dX10_digest_84 ?_
                refine q_aload_n F 0 dX10_digest_85 rfl ?_
                refine q_get F (ci := 10) (j := 0) (v := .ref (q 0)) (List.mem_append_left _ (List.mem_of_getElem? (i := 0) rfl)) rfl hi10 (by decide) hf12_10 rfl rfl dX10_digest_86 ?_
                refine q_iload_n F 2 dX10_digest_89 rfl ?_
                refine q_callV F (ci := 6) (As := [.int (nI k_)]) (rest := [.long ((31 : Int64) * (syP pf (dyT T (B, kp, km, ku) sk (dfC T true true 7 (shN (B 2)) kp km ku (nI 0) 0 O (ac0 BO))) k_))]) (List.mem_append_right _ (List.mem_append_left _ (List.mem_of_getElem? (i := 0) rfl))) rfl (c_X6_codeAt l E q n pf (oC x (q 0) (t 0) (a 0) (k 0) (u 0) (r 0) g9 ++ (pC E q n pf ++ (tC E t T ++ (nC E a (t 0) (nI sk) B ++ (kC (a 1) kp km ku ++ (nC E k (t 0) sn1 B1 ++ (kC (k 1) kp1 km1 ku1 ++ (nC E u (t 0) sn9 B9 ++ (kC (u 1) kp9 km9 ku9 ++ (rC E r (t 0) kd rg9 O9 BO9 ++ (ksC kd P9 M9 U9 ++ tl))))))))))) (isIn.r _ (isIn.l _ _)) hq k_ (by omega)) (List.Perm.refl _) gX10_digest_X6_codeAt rfl rfl rfl hd_X6_codeAt ⟨by decide, by decide⟩ rfl (Nat.le_of_ble_eq_true rfl) dX10_digest_90 ⟨Nat.le_of_ble_eq_true rfl, Nat.le_of_ble_eq_true rfl⟩ (fun v_ w_ hvw => ?_)
                rw [hvw.1, hvw.2]
                clear hvw
                refine q_at (pc' := 93) (st' := [.int (pf k_), .long ((31 : Int64) * (syP pf (dyT T (B, kp, km, ku) sk (dfC T true true 7 (shN (B 2)) kp km ku (nI 0) 0 O (ac0 BO))) k_))]) (ws' := oC x (q 0) (t 0) (a 0) (k 0) (u 0) (r 0) g9 ++ (pC E q n pf ++ (tC E t T ++ (nC E a (t 0) (nI sk) B ++ (kC (a 1) kp km ku ++ (nC E k (t 0) sn1 B1 ++ (kC (k 1) kp1 km1 ku1 ++ (nC E u (t 0) sn9 B9 ++ (kC (u 1) kp9 km9 ku9 ++ (rC E r (t 0) kd rg9 O9 BO9 ++ (ksC kd P9 M9 U9 ++ tl))))))))))) (k' := 0) (n' := 0) rfl rfl rfl rfl rfl ?_
                refine q_i2l F dX10_digest_93 ?_
                refine q_ladd F dX10_digest_94 ?_
                refine q_eq (st' := [.long (sy (syP pf (dyT T (B, kp, km, ku) sk (dfC T true true 7 (shN (B 2)) kp km ku (nI 0) 0 O (ac0 BO))) k_) (pf k_))]) rfl ?_
                refine q_lstore_n F (lv' := [(1, .long (sy (syP pf (dyT T (B, kp, km, ku) sk (dfC T true true 7 (shN (B 2)) kp km ku (nI 0) 0 O (ac0 BO))) k_) (pf k_))), (0, .ref x), (3, .int (nI k_))]) dX10_digest_95 (by decide) rfl ?_
                refine q_iinc F 2 (v := nI (k_ + 1)) (lv' := [(3, .int (nI (k_ + 1))), (1, .long (sy (syP pf (dyT T (B, kp, km, ku) sk (dfC T true true 7 (shN (B 2)) kp km ku (nI 0) 0 O (ac0 BO))) k_) (pf k_))), (0, .ref x)]) dX10_digest_96 rfl (nI_1 _) (by decide) rfl ?_
                refine q_goto F (tgt := 69) dX10_digest_99 (by decide) ?_
                refine q_lv [2, 1, 0] (lv' := [(0, .ref x), (1, .long (sy (syP pf (dyT T (B, kp, km, ku) sk (dfC T true true 7 (shN (B 2)) kp km ku (nI 0) 0 O (ac0 BO))) k_) (pf k_))), (3, .int (nI (k_ + 1)))]) rfl ?_
                refine q_perm pf10 ?_
                refine q_perm pf10 ?_
                refine q_perm pf10 ?_
                refine q_perm pf10 ?_
                refine q_perm pf10 ?_
                refine q_perm pf10 ?_
                refine q_perm pf10 ?_
                refine q_perm pf10 ?_
                refine q_perm pf10 ?_
                refine q_perm pf10 ?_
                refine q_perm pf10 ?_
                refine q_to (lv' := [(0, .ref x), (1, .long (syP pf (dyT T (B, kp, km, ku) sk (dfC T true true 7 (shN (B 2)) kp km ku (nI 0) 0 O (ac0 BO))) (k_ + 1))), (3, .int (nI (k_ + 1)))]) (st' := []) (ws' := oC x (q 0) (t 0) (a 0) (k 0) (u 0) (r 0) g9 ++ (pC E q n pf ++ (tC E t T ++ (nC E a (t 0) (nI sk) B ++ (kC (a 1) kp km ku ++ (nC E k (t 0) sn1 B1 ++ (kC (k 1) kp1 km1 ku1 ++ (nC E u (t 0) sn9 B9 ++ (kC (u 1) kp9 km9 ku9 ++ (rC E r (t 0) kd rg9 O9 BO9 ++ (ksC kd P9 M9 U9 ++ tl))))))))))) (cE (vE (rfl)) (cE (vE (congrArg Value.long (by rw [syP]))) (cE (vE (rfl)) rfl))) rfl rfl ?_
                exact ih_69 (k_ + 1) g9 sn9 B9 kp9 km9 ku9 rg9 O9 BO9 P9 M9 U9 (by omega) (h96) (h97) (h98) (by omega)
          refine q_lv [2, 1, 0] (lv' := [(0, .ref x), (1, .long (wyE T (B, kp, km, ku) sk (dfC T true true 7 (shN (B 2)) kp km ku (nI 0) 0 O (ac0 BO)) (dyO T B (tN T)))), (3, .int (nI 0))]) rfl ?_
          refine q_perm pf10 ?_
          refine q_perm pf10 ?_
          refine q_perm pf10 ?_
          refine q_perm pf10 ?_
          refine q_perm pf10 ?_
          refine q_perm pf10 ?_
          refine q_perm pf10 ?_
          refine q_perm pf10 ?_
          refine q_perm pf10 ?_
          refine q_perm pf10 ?_
          refine q_perm pf10 ?_
          refine q_to (lv' := [(0, .ref x), (1, .long (syP pf (dyT T (B, kp, km, ku) sk (dfC T true true 7 (shN (B 2)) kp km ku (nI 0) 0 O (ac0 BO))) 0)), (3, .int (nI 0))]) (st' := []) (ws' := oC x (q 0) (t 0) (a 0) (k 0) (u 0) (r 0) (upd (upd g 9 (gsC T B sk 30).1) 10 (gsC T B sk 30).2) ++ (pC E q n pf ++ (tC E t T ++ (nC E a (t 0) (nI sk) B ++ (kC (a 1) kp km ku ++ (nC E k (t 0) sn1 B1 ++ (kC (k 1) kp1 km1 ku1 ++ (nC E u (t 0) w0 w1 ++ (kC (u 1) w2 w3 w4 ++ (rC E r (t 0) kd w5 w6 w7 ++ (ksC kd w8 w9 w10 ++ tl))))))))))) (cE (vE (rfl)) (cE (vE (congrArg Value.long (by rw [syP, dyT_1 (by simpa using hb_58)]))) (cE (vE (rfl)) rfl))) rfl rfl ?_
          exact lb69 (n - 0 + 1) 0 (upd (upd g 9 (gsC T B sk 30).1) 10 (gsC T B sk 30).2) w0 w1 w2 w3 w4 w5 w6 w7 w8 w9 w10 (by omega) (rfl) (rfl) (rfl) (Nat.lt_succ_self _)
      · skip
        have hn_14 : i < (tN T) := nf_ge_f (by omega) (by omega) h_14
        refine q_iconst F dX10_digest_17 (v := nI 0) (by decide) ?_
        refine q_istore F (lv' := [(4, .int (nI 0)), (0, .ref x), (1, .long (dyO T B i)), (3, .int (nI i))]) dX10_digest_18 (by decide) rfl ?_
        have lb20 : ∀ (fu : Nat) (j : Nat) (hj : j ≤ 8), 8 - j < fu → gW p_ l e_ (rmL 22 0 0) s_ m_ args_ below_ meth_ c_ E A_ 5 (MQ below_ (gQ E A_ P_) args_ s_ 0 0 A_) 20 [(0, .ref x), (1, .long (dyI T B i (dyO T B i) j)), (3, .int (nI i)), (4, .int (nI j))] [] (oC x (q 0) (t 0) (a 0) (k 0) (u 0) (r 0) g ++ (pC E q n pf ++ (tC E t T ++ (nC E a (t 0) (nI sk) B ++ (kC (a 1) kp km ku ++ (nC E k (t 0) sn1 B1 ++ (kC (k 1) kp1 km1 ku1 ++ (nC E u (t 0) sn2 B2 ++ (kC (u 1) kp2 km2 ku2 ++ (rC E r (t 0) kd rg O BO ++ (ksC kd P M U ++ tl))))))))))) 0 0 := by
          intro fu_20
          induction fu_20 with
          | zero => intro j hj hfu; exact absurd hfu (Nat.not_lt_zero _)
          | succ fu_20 ih_20 =>
            intro j hj hfu_20
            refine q_iload F 3 dX10_digest_20 rfl ?_
            refine q_bipush F dX10_digest_22 (v := nI 7) (by decide) ?_
            refine q_icmp_gt F (tgt := 48) dX10_digest_24 (by decide) (fun h_24 => ?_) (fun h_24 => ?_)
            · skip
              have hn_24 : j > 7 := nf_gt_t (by omega) (by omega) h_24
              obtain rfl : j = 8 := by omega
              refine q_iinc F 2 (v := nI (i + 1)) (lv' := [(3, .int (nI (i + 1))), (0, .ref x), (1, .long (dyI T B i (dyO T B i) 8)), (4, .int (nI 8))]) dX10_digest_48 rfl (nI_1 _) (by decide) rfl ?_
              refine q_goto F (tgt := 6) dX10_digest_51 (by decide) ?_
              refine q_lv [1, 2, 0] (lv' := [(0, .ref x), (1, .long (dyI T B i (dyO T B i) 8)), (3, .int (nI (i + 1)))]) rfl ?_
              refine q_perm pf10 ?_
              refine q_perm pf10 ?_
              refine q_perm pf10 ?_
              refine q_perm pf10 ?_
              refine q_perm pf10 ?_
              refine q_perm pf10 ?_
              refine q_perm pf10 ?_
              refine q_perm pf10 ?_
              refine q_perm pf10 ?_
              refine q_perm pf10 ?_
              refine q_perm pf10 ?_
              refine q_to (lv' := [(0, .ref x), (1, .long (dyO T B (i + 1))), (3, .int (nI (i + 1)))]) (st' := []) (ws' := oC x (q 0) (t 0) (a 0) (k 0) (u 0) (r 0) g ++ (pC E q n pf ++ (tC E t T ++ (nC E a (t 0) (nI sk) B ++ (kC (a 1) kp km ku ++ (nC E k (t 0) sn1 B1 ++ (kC (k 1) kp1 km1 ku1 ++ (nC E u (t 0) sn2 B2 ++ (kC (u 1) kp2 km2 ku2 ++ (rC E r (t 0) kd rg O BO ++ (ksC kd P M U ++ tl))))))))))) (cE (vE (rfl)) (cE (vE (congrArg Value.long (by rw [dyO]))) (cE (vE (rfl)) rfl))) rfl rfl ?_
              exact ih_6 (i + 1) (by omega) (by omega)
            · skip
              have hn_24 : j ≤ 7 := nf_gt_f (by omega) (by omega) h_24
              refine q_ldc2 F hk202 dX10_digest_27 ?_
              refine q_lload_n F 1 dX10_digest_30 rfl ?_
              refine q_lmul F dX10_digest_31 ?_
              refine q_aload_n F 0 dX10_digest_32 rfl ?_
              refine q_iload_n F 2 dX10_digest_33 rfl ?_
              refine q_iload F 3 dX10_digest_34 rfl ?_
              refine q_perm pf10 ?_
              refine q_perm pf10 ?_
              refine q_perm pf10 ?_
              refine q_perm pf10 ?_
              refine q_perm pf10 ?_
              refine q_perm pf10 ?_
              refine q_perm pf10 ?_
              refine q_perm pf10 ?_
              refine q_perm pf10 ?_
              refine q_perm pf10 ?_
              refine q_perm pf10 ?_
              refine q_callV F (ci := 10) (As := [.int (nI i), .int (nI j)]) (rest := [.long ((31 : Int64) * (dyI T B i (dyO T B i) j))]) (List.mem_append_left _ (List.mem_of_getElem? (i := 0) rfl)) rfl (c_X10_toldOf l E x q t a k u r kd T g n pf (nI sk) B kp km ku sn1 B1 kp1 km1 ku1 sn2 B2 kp2 km2 ku2 rg O BO P M U tl hH hn hq i j (by omega) (by omega)) (List.Perm.refl _) gX10_digest_X10_toldOf rfl rfl rfl hd_X10_toldOf ⟨by decide, by decide⟩ rfl (Nat.le_of_ble_eq_true rfl) dX10_digest_36 ⟨Nat.le_of_ble_eq_true rfl, Nat.le_of_ble_eq_true rfl⟩ (fun v_ w_ hvw => ?_)
              rw [hvw.1, hvw.2]
              clear hvw
              refine q_at (pc' := 39) (st' := [.int (tdF T B i j), .long ((31 : Int64) * (dyI T B i (dyO T B i) j))]) (ws' := oC x (q 0) (t 0) (a 0) (k 0) (u 0) (r 0) g ++ (pC E q n pf ++ (tC E t T ++ (nC E a (t 0) (nI sk) B ++ (kC (a 1) kp km ku ++ (nC E k (t 0) sn1 B1 ++ (kC (k 1) kp1 km1 ku1 ++ (nC E u (t 0) sn2 B2 ++ (kC (u 1) kp2 km2 ku2 ++ (rC E r (t 0) kd rg O BO ++ (ksC kd P M U ++ tl))))))))))) (k' := 0) (n' := 0) rfl rfl rfl rfl rfl ?_
              refine q_i2l F dX10_digest_39 ?_
              refine q_ladd F dX10_digest_40 ?_
              refine q_eq (st' := [.long (sy (dyI T B i (dyO T B i) j) (tdF T B i j))]) rfl ?_
              refine q_lstore_n F (lv' := [(1, .long (sy (dyI T B i (dyO T B i) j) (tdF T B i j))), (0, .ref x), (3, .int (nI i)), (4, .int (nI j))]) dX10_digest_41 (by decide) rfl ?_
              refine q_iinc F 3 (v := nI (j + 1)) (lv' := [(4, .int (nI (j + 1))), (1, .long (sy (dyI T B i (dyO T B i) j) (tdF T B i j))), (0, .ref x), (3, .int (nI i))]) dX10_digest_42 rfl (nI_1 _) (by decide) rfl ?_
              refine q_goto F (tgt := 20) dX10_digest_45 (by decide) ?_
              refine q_lv [2, 1, 3, 0] (lv' := [(0, .ref x), (1, .long (sy (dyI T B i (dyO T B i) j) (tdF T B i j))), (3, .int (nI i)), (4, .int (nI (j + 1)))]) rfl ?_
              refine q_perm pf10 ?_
              refine q_perm pf10 ?_
              refine q_perm pf10 ?_
              refine q_perm pf10 ?_
              refine q_perm pf10 ?_
              refine q_perm pf10 ?_
              refine q_perm pf10 ?_
              refine q_perm pf10 ?_
              refine q_perm pf10 ?_
              refine q_perm pf10 ?_
              refine q_perm pf10 ?_
              refine q_to (lv' := [(0, .ref x), (1, .long (dyI T B i (dyO T B i) (j + 1))), (3, .int (nI i)), (4, .int (nI (j + 1)))]) (st' := []) (ws' := oC x (q 0) (t 0) (a 0) (k 0) (u 0) (r 0) g ++ (pC E q n pf ++ (tC E t T ++ (nC E a (t 0) (nI sk) B ++ (kC (a 1) kp km ku ++ (nC E k (t 0) sn1 B1 ++ (kC (k 1) kp1 km1 ku1 ++ (nC E u (t 0) sn2 B2 ++ (kC (u 1) kp2 km2 ku2 ++ (rC E r (t 0) kd rg O BO ++ (ksC kd P M U ++ tl))))))))))) (cE (vE (rfl)) (cE (vE (congrArg Value.long (by rw [dyI]))) (cE (vE (rfl)) (cE (vE (rfl)) rfl)))) rfl rfl ?_
              exact ih_20 (j + 1) (by omega) (by omega)
        refine q_lv [1, 2, 3, 0] (lv' := [(0, .ref x), (1, .long (dyO T B i)), (3, .int (nI i)), (4, .int (nI 0))]) rfl ?_
        refine q_perm pf10 ?_
        refine q_perm pf10 ?_
        refine q_perm pf10 ?_
        refine q_perm pf10 ?_
        refine q_perm pf10 ?_
        refine q_perm pf10 ?_
        refine q_perm pf10 ?_
        refine q_perm pf10 ?_
        refine q_perm pf10 ?_
        refine q_perm pf10 ?_
        refine q_perm pf10 ?_
        refine q_to (lv' := [(0, .ref x), (1, .long (dyI T B i (dyO T B i) 0)), (3, .int (nI i)), (4, .int (nI 0))]) (st' := []) (ws' := oC x (q 0) (t 0) (a 0) (k 0) (u 0) (r 0) g ++ (pC E q n pf ++ (tC E t T ++ (nC E a (t 0) (nI sk) B ++ (kC (a 1) kp km ku ++ (nC E k (t 0) sn1 B1 ++ (kC (k 1) kp1 km1 ku1 ++ (nC E u (t 0) sn2 B2 ++ (kC (u 1) kp2 km2 ku2 ++ (rC E r (t 0) kd rg O BO ++ (ksC kd P M U ++ tl))))))))))) (cE (vE (rfl)) (cE (vE (congrArg Value.long (by rw [dyI]))) (cE (vE (rfl)) (cE (vE (rfl)) rfl)))) rfl rfl ?_
        exact lb20 (8 - 0 + 1) 0 (by omega) (Nat.lt_succ_self _)
  refine q_lv [2, 1, 0] (lv' := [(0, .ref x), (1, .long (823 : Int64)), (3, .int (nI 0))]) rfl ?_
  refine q_perm pf10 ?_
  refine q_perm pf10 ?_
  refine q_perm pf10 ?_
  refine q_perm pf10 ?_
  refine q_perm pf10 ?_
  refine q_perm pf10 ?_
  refine q_perm pf10 ?_
  refine q_perm pf10 ?_
  refine q_perm pf10 ?_
  refine q_perm pf10 ?_
  refine q_perm pf10 ?_
  refine q_to (lv' := [(0, .ref x), (1, .long (dyO T B 0)), (3, .int (nI 0))]) (st' := []) (ws' := oC x (q 0) (t 0) (a 0) (k 0) (u 0) (r 0) g ++ (pC E q n pf ++ (tC E t T ++ (nC E a (t 0) (nI sk) B ++ (kC (a 1) kp km ku ++ (nC E k (t 0) sn1 B1 ++ (kC (k 1) kp1 km1 ku1 ++ (nC E u (t 0) sn2 B2 ++ (kC (u 1) kp2 km2 ku2 ++ (rC E r (t 0) kd rg O BO ++ (ksC kd P M U ++ tl))))))))))) (cE (vE (rfl)) (cE (vE (congrArg Value.long (by rw [dyO]))) (cE (vE (rfl)) rfl))) rfl rfl ?_
  exact lb6 (tN T - 0 + 1) 0 (by omega) (Nat.lt_succ_self _)
