/-! the digest, as the reference answers -/
theorem cntM_kp {T : gTown} {f f' : gF} {A A' : gA} (hf : kpF f f') (ha : kpA A A') : ∀ k, cntM T f' A' k = cntM T f A k
  | 0 => hf 2 rfl
  | 1 => by show smM (A' 7) 4 (tN T) = smM (A 7) 4 (tN T); rw [ha 7 rfl]
  | 2 => hf 3 rfl
  | 3 => hf 5 rfl
  | 4 => hf 4 rfl
  | 5 => by show smM (A' 7) 6 (tN T) = smM (A 7) 6 (tN T); rw [ha 7 rfl]
  | 6 => by show smM (A' 7) 7 (tN T) = smM (A 7) 7 (tN T); rw [ha 7 rfl]
  | 7 => hf 20 rfl
  | 8 => hf 1 rfl
  | 9 => hf 6 rfl
  | _ + 10 => hf 19 rfl
theorem couM_kp {T : gTown} {f f' : gF} {A A' : gA} (hf : kpF f f') (ha : kpA A A') (x : Int32) : couM T f' A' x = couM T f A x := by rw [couM, couM, cntM_kp hf ha]
def syI (r : Nat → Int32) (i : Nat) (h : Int64) : Nat → Int64
  | 0 => h
  | j + 1 => sy (syI r i h j) (r (8 * i + j))
def syO (r : Nat → Int32) : Nat → Int64
  | 0 => 823
  | i + 1 => syI r i (syO r i) 8
def syP (p : Nat → Int32) (h : Int64) : Nat → Int64
  | 0 => h
  | k + 1 => sy (syP p h k) (p k)
def syN (T : gTown) (f : gF) (A : gA) (h : Int64) : Nat → Int64
  | 0 => h
  | k + 1 => sy (syN T f A h k) (couM T f A (nI k))
noncomputable def dgT (T : gTown) (f : gF) (A : gA) (sh : Nat → Nat) (sk : Nat) : Int64 := if tN T = 0 then syO (A 7) (tN T) else syE (syL T f A (syO (A 7) (tN T)) 3) (lbA T (f 5) (A 7) (f 3) (f 4)) (cnt (shB T (A 7)) (tN T)) (guC T (A 7) (A 21) sh sk 30) (guL T (A 7) (A 21) sh sk 30)
theorem dgT_0 {T : gTown} {f : gF} {A : gA} {sh : Nat → Nat} {sk : Nat} (h : tN T = 0) : dgT T f A sh sk = syO (A 7) (tN T) := by unfold dgT; rw [if_pos h]
theorem dgT_1 {T : gTown} {f : gF} {A : gA} {sh : Nat → Nat} {sk : Nat} (h : ¬ tN T = 0) : dgT T f A sh sk = syE (syL T f A (syO (A 7) (tN T)) 3) (lbA T (f 5) (A 7) (f 3) (f 4)) (cnt (shB T (A 7)) (tN T)) (guC T (A 7) (A 21) sh sk 30) (guL T (A 7) (A 21) sh sk 30) := by unfold dgT; rw [if_neg h]
set_option maxHeartbeats 1000000 in
set_option maxRecDepth 100000 in
theorem c_X11_digest (l : Launch) (E : gEnv) (a : Nat → Nat) (f : Nat → Int32) (hh : Int64) (A : Nat → Nat → Int32) (tl : va_W) (T : gTown) (hm : f 2 = nI (tN T)) (hn : tN T ≤ 6) (hR : rowsOf (A 7) T) (hO : okT T) (sk : Nat) (h20 : f 20 = nI sk) (hsk : sk ≤ 6) (sh : Nat → Nat) (hsh : ∀ k, k < sk → A 21 (3 * k) = nI (sh k) ∧ sh k < 6) (hp3 : okP (f 3)) (hne : ¬ tN T = 0 → ¬ (lbA T (f 5) (A 7) (f 3) (f 4)).1 = (-1)) (pm : Nat) (h1 : f 1 = nI pm) (hpm : pm ≤ 30) : Cn l E yX11_digest wsX11_digest (rmL 6 0 0) [.ref (a 32)] (mC E a f hh A ++ tl) 0 0 (fun v w => v = some (.long (syN T f A (syP (A 0) (dgT T f A sh sk) pm) 11)) ∧ ∃ (f' : Nat → Int32) (A' : Nat → Nat → Int32), w = mC E a f' (syN T f A (syP (A 0) (dgT T f A sh sk) pm) 11) A' ++ tl ∧ kpF f f' ∧ kpA A A') := by
  refine Cn.of (own := RX11) (cc := cX11_digest) (maxL := 3) (ret := (some .long)) (lv := [(0, .ref (a 32))]) (by decide) rfl rfl (Nat.le_of_ble_eq_true rfl) rfl ?_
  intro p_ e_ s_ m_ args_ below_ meth_ c_ A_ P_ hp_ F hr_ hnm_
  have hk240 : Cond.constantLong RX11 240 (823) ∈ wsX11_digest := by decide +kernel
  have hf230_11 : Cond.fieldLink RX11 230 "KeyOnStreetModel" (TX11 31).2.1 (TX11 31).2.2.1 ∈ wsX11_digest := by decide +kernel
  have hi11 : ∀ w ∈ u_ws RX11 TX11 32, w ∈ wsX11_digest := by decide +kernel
  have hf67_11 : Cond.fieldLink RX11 67 "KeyOnStreetModel" (TX11 2).2.1 (TX11 2).2.2.1 ∈ wsX11_digest := by decide +kernel
  have hd_X11_lacks : yX11_lacks.cls = RX11 ∧ yX11_lacks.cls ≠ "java/lang/invoke/MethodHandle" ∧ yX11_lacks.cls ≠ "java/lang/invoke/VarHandle" ∧ (parseMethodDescriptor yX11_lacks.desc).map (fun d => d.parameters.length) = some 0 := by decide +kernel
  have hf50_11 : Cond.fieldLink RX11 50 "KeyOnStreetModel" (TX11 1).2.1 (TX11 1).2.2.1 ∈ wsX11_digest := by decide +kernel
  have hd_X11_countOf : yX11_countOf.cls = RX11 ∧ yX11_countOf.cls ≠ "java/lang/invoke/MethodHandle" ∧ yX11_countOf.cls ≠ "java/lang/invoke/VarHandle" ∧ (parseMethodDescriptor yX11_countOf.desc).map (fun d => d.parameters.length) = some 1 := by decide +kernel
  have hd_X11_say : yX11_say.cls = RX11 ∧ yX11_say.cls ≠ "java/lang/invoke/MethodHandle" ∧ yX11_say.cls ≠ "java/lang/invoke/VarHandle" ∧ (parseMethodDescriptor yX11_say.desc).map (fun d => d.parameters.length) = some 1 := by decide +kernel
  have hf7_11 : Cond.fieldLink RX11 7 "KeyOnStreetModel" (TX11 0).2.1 (TX11 0).2.2.1 ∈ wsX11_digest := by decide +kernel
  have hd_X11_sayTown : yX11_sayTown.cls = RX11 ∧ yX11_sayTown.cls ≠ "java/lang/invoke/MethodHandle" ∧ yX11_sayTown.cls ≠ "java/lang/invoke/VarHandle" ∧ (parseMethodDescriptor yX11_sayTown.desc).map (fun d => d.parameters.length) = some 0 := by decide +kernel
  have hf13_11 : Cond.fieldLink RX11 13 "KeyOnStreetModel" (TX11 7).2.1 (TX11 7).2.2.1 ∈ wsX11_digest := by decide +kernel
  refine q_aload_n F 0 dX11_digest_0 rfl ?_
  refine q_ldc2 F hk240 dX11_digest_1 ?_
  refine q_put F (j := 31) 0 rfl rfl hi11 tyX11 tyX11_ok nmX11 (by decide) hf230_11 rfl rfl rfl rfl (Nat.le_of_ble_eq_true rfl) dX11_digest_4 (ws' := mC E a f (823 : Int64) A ++ tl) rfl ?_
  refine q_iconst F dX11_digest_7 (v := nI 0) (by decide) ?_
  refine q_istore_n F (lv' := [(1, .int (nI 0)), (0, .ref (a 32))]) dX11_digest_8 (by decide) rfl ?_
  have lb9 : ∀ (fu : Nat) (i : Nat) (hi : i ≤ tN T), tN T - i < fu → gW p_ l e_ (rmL 6 0 0) s_ m_ args_ below_ meth_ c_ E A_ 3 (MQ below_ (gQ E A_ P_) args_ s_ 0 0 A_) 9 [(0, .ref (a 32)), (1, .int (nI i))] [] (mC E a f (syO (A 7) i) A ++ tl) 0 0 := by
    intro fu_9
    induction fu_9 with
    | zero => intro i hi hfu; exact absurd hfu (Nat.not_lt_zero _)
    | succ fu_9 ih_9 =>
      intro i hi hfu_9
      refine q_iload_n F 1 dX11_digest_9 rfl ?_
      refine q_aload_n F 0 dX11_digest_10 rfl ?_
      refine q_get F (ci := 11) (j := 2) (v := .int (f 2)) (List.mem_append_left _ (List.mem_of_getElem? (i := 0) rfl)) rfl hi11 (by decide) hf67_11 rfl rfl dX11_digest_11 ?_
      refine q_toi (nI (tN T)) (hm) ?_
      refine q_icmp_ge F (tgt := 53) dX11_digest_14 (by decide) (fun h_14 => ?_) (fun h_14 => ?_)
      · skip
        have hn_14 : i ≥ (tN T) := nf_ge_t (by omega) (by omega) h_14
        obtain rfl : i = (tN T) := by omega
        refine q_aload_n F 0 dX11_digest_53 rfl ?_
        refine q_callV F (ci := 11) (As := []) (rest := []) (List.mem_append_left _ (List.mem_of_getElem? (i := 0) rfl)) rfl (c_X11_lacks l E a f (syO (A 7) (tN T)) A tl T hm hn ) (List.Perm.refl _) gX11_digest_X11_lacks rfl rfl rfl hd_X11_lacks ⟨by decide, by decide⟩ rfl (Nat.le_of_ble_eq_true rfl) dX11_digest_54 ⟨Nat.le_of_ble_eq_true rfl, Nat.le_of_ble_eq_true rfl⟩ (fun v_ w_ hvw => ?_)
        rw [hvw.1, hvw.2]
        clear hvw
        refine q_at (pc' := 57) (st' := [.int (bI (decide (tN T = 0)))]) (ws' := mC E a f (syO (A 7) (tN T)) A ++ tl) (k' := 0) (n' := 0) rfl rfl rfl rfl rfl ?_
        refine q_if_ne F (tgt := 64) dX11_digest_57 (by decide) (fun h_57 => ?_) (fun h_57 => ?_)
        · skip
          have hb_57 := bI_1 h_57
          refine q_iconst F dX11_digest_64 (v := nI 0) (by decide) ?_
          refine q_istore_n F (lv' := [(1, .int (nI 0)), (0, .ref (a 32))]) dX11_digest_65 (by decide) rfl ?_
          have lb66 : ∀ (fu : Nat) (k : Nat) (f9 : Nat → Int32) (A9 : Nat → Nat → Int32) (hk : k ≤ pm) (hkf : kpF f f9) (hka : kpA A A9), pm - k < fu → gW p_ l e_ (rmL 6 0 0) s_ m_ args_ below_ meth_ c_ E A_ 3 (MQ below_ (gQ E A_ P_) args_ s_ 0 0 A_) 66 [(0, .ref (a 32)), (1, .int (nI k))] [] (mC E a f9 (syP (A 0) (dgT T f A sh sk) k) A9 ++ tl) 0 0 := by
            intro fu_66
            induction fu_66 with
            | zero => intro k f9 A9 hk hkf hka hfu; exact absurd hfu (Nat.not_lt_zero _)
            | succ fu_66 ih_66 =>
              intro k f9 A9 hk hkf hka hfu_66
              refine q_iload_n F 1 dX11_digest_66 rfl ?_
              refine q_aload_n F 0 dX11_digest_67 rfl ?_
              refine q_get F (ci := 11) (j := 1) (v := .int (f9 1)) (List.mem_append_left _ (List.mem_of_getElem? (i := 0) rfl)) rfl hi11 (by decide) hf50_11 rfl rfl dX11_digest_68 ?_
              refine q_toi (nI pm) (((hkf 1 rfl).trans h1)) ?_
              refine q_icmp_ge F (tgt := 91) dX11_digest_71 (by decide) (fun h_71 => ?_) (fun h_71 => ?_)
              · skip
                have hn_71 : k ≥ pm := nf_ge_t (by omega) (by omega) h_71
                obtain rfl : pm = k := by omega
                refine q_iconst F dX11_digest_91 (v := nI 0) (by decide) ?_
                refine q_istore_n F (lv' := [(1, .int (nI 0)), (0, .ref (a 32))]) dX11_digest_92 (by decide) rfl ?_
                have lb93 : ∀ (fu : Nat) (m : Nat) (hm11 : m ≤ 11), 11 - m < fu → gW p_ l e_ (rmL 6 0 0) s_ m_ args_ below_ meth_ c_ E A_ 3 (MQ below_ (gQ E A_ P_) args_ s_ 0 0 A_) 93 [(0, .ref (a 32)), (1, .int (nI m))] [] (mC E a f9 (syN T f A (syP (A 0) (dgT T f A sh sk) pm) m) A9 ++ tl) 0 0 := by
                  intro fu_93
                  induction fu_93 with
                  | zero => intro m hm11 hfu; exact absurd hfu (Nat.not_lt_zero _)
                  | succ fu_93 ih_93 =>
                    intro m hm11 hfu_93
                    refine q_iload_n F 1 dX11_digest_93 rfl ?_
                    refine q_bipush F dX11_digest_94 (v := nI 11) (by decide) ?_
                    refine q_icmp_ge F (tgt := 115) dX11_digest_96 (by decide) (fun h_96 => ?_) (fun h_96 => ?_)
                    · skip
                      have hn_96 : m ≥ 11 := nf_ge_t (by omega) (by omega) h_96
                      obtain rfl : m = 11 := by omega
                      refine q_aload_n F 0 dX11_digest_115 rfl ?_
                      refine q_get F (ci := 11) (j := 31) (v := .long (syN T f A (syP (A 0) (dgT T f A sh sk) pm) 11)) (List.mem_append_left _ (List.mem_of_getElem? (i := 0) rfl)) rfl hi11 (by decide) hf230_11 rfl rfl dX11_digest_116 ?_
                      exact q_lret F hr_ dX11_digest_119 (hp_ _ _ ⟨rfl, f9, A9, rfl, hkf, hka⟩)
                    · skip
                      have hn_96 : m < 11 := nf_ge_f (by omega) (by omega) h_96
                      refine q_aload_n F 0 dX11_digest_99 rfl ?_
                      refine q_aload_n F 0 dX11_digest_100 rfl ?_
                      refine q_iload_n F 1 dX11_digest_101 rfl ?_
                      refine q_callV F (ci := 11) (As := [.int (nI m)]) (rest := [.ref (a 32)]) (List.mem_append_left _ (List.mem_of_getElem? (i := 0) rfl)) rfl (c_X11_countOf l E a f9 (syN T f A (syP (A 0) (dgT T f A sh sk) pm) m) A9 tl T ((hkf 2 rfl).trans hm) hn (nI m)) (List.Perm.refl _) gX11_digest_X11_countOf rfl rfl rfl hd_X11_countOf ⟨by decide, by decide⟩ rfl (Nat.le_of_ble_eq_true rfl) dX11_digest_102 ⟨Nat.le_of_ble_eq_true rfl, Nat.le_of_ble_eq_true rfl⟩ (fun v_ w_ hvw => ?_)
                      rw [hvw.1, hvw.2]
                      clear hvw
                      refine q_at (pc' := 105) (st' := [.int (couM T f9 A9 (nI m)), .ref (a 32)]) (ws' := mC E a f9 (syN T f A (syP (A 0) (dgT T f A sh sk) pm) m) A9 ++ tl) (k' := 0) (n' := 0) rfl rfl rfl rfl rfl ?_
                      refine q_toi (couM T f A (nI m)) (couM_kp hkf hka _) ?_
                      refine q_i2l F dX11_digest_105 ?_
                      refine q_callV F (ci := 11) (As := [.long ((couM T f A (nI m)).toInt64)]) (rest := []) (List.mem_append_left _ (List.mem_of_getElem? (i := 0) rfl)) rfl (c_X11_say l E a f9 (syN T f A (syP (A 0) (dgT T f A sh sk) pm) m) A9 tl ((couM T f A (nI m)).toInt64)) (List.Perm.refl _) gX11_digest_X11_say rfl rfl rfl hd_X11_say ⟨by decide, by decide⟩ rfl (Nat.le_of_ble_eq_true rfl) dX11_digest_106 ⟨Nat.le_of_ble_eq_true rfl, Nat.le_of_ble_eq_true rfl⟩ (fun v_ w_ hvw => ?_)
                      rw [hvw.1, hvw.2]
                      clear hvw
                      refine q_at (pc' := 109) (st' := []) (ws' := mC E a f9 ((31 : Int64) * (syN T f A (syP (A 0) (dgT T f A sh sk) pm) m) + ((couM T f A (nI m)).toInt64)) A9 ++ tl) (k' := 0) (n' := 0) rfl rfl rfl rfl rfl ?_
                      refine q_iinc F 1 (v := nI (m + 1)) (lv' := [(1, .int (nI (m + 1))), (0, .ref (a 32))]) dX11_digest_109 rfl (nI_1 _) (by decide) rfl ?_
                      refine q_goto F (tgt := 93) dX11_digest_112 (by decide) ?_
                      refine q_lv [1, 0] (lv' := [(0, .ref (a 32)), (1, .int (nI (m + 1)))]) rfl ?_
                      refine q_to (lv' := [(0, .ref (a 32)), (1, .int (nI (m + 1)))]) (st' := []) (ws' := mC E a f9 (syN T f A (syP (A 0) (dgT T f A sh sk) pm) (m + 1)) A9 ++ tl) rfl rfl (by rw [syN, sy]) ?_
                      exact ih_93 (m + 1) (by omega) (by omega)
                refine q_lv [1, 0] (lv' := [(0, .ref (a 32)), (1, .int (nI 0))]) rfl ?_
                refine q_to (lv' := [(0, .ref (a 32)), (1, .int (nI 0))]) (st' := []) (ws' := mC E a f9 (syN T f A (syP (A 0) (dgT T f A sh sk) pm) 0) A9 ++ tl) rfl rfl (by rfl) ?_
                exact lb93 (11 - 0 + 1) 0 (by omega) (Nat.lt_succ_self _)
              · skip
                have hn_71 : k < pm := nf_ge_f (by omega) (by omega) h_71
                refine q_aload_n F 0 dX11_digest_74 rfl ?_
                refine q_aload_n F 0 dX11_digest_75 rfl ?_
                refine q_get F (ci := 11) (j := 0) (v := .ref (a 0)) (List.mem_append_left _ (List.mem_of_getElem? (i := 0) rfl)) rfl hi11 (by decide) hf7_11 rfl rfl dX11_digest_76 ?_
                refine q_iload_n F 1 dX11_digest_79 rfl ?_
                refine q_iald F (f := A9 0) (List.mem_append_left _ (List.mem_of_getElem? (i := 1) rfl)) k rfl (by omega) (by decide) dX11_digest_80 ?_
                refine q_toi (A 0 k) (by rw [hka 0 rfl]) ?_
                refine q_i2l F dX11_digest_81 ?_
                refine q_callV F (ci := 11) (As := [.long ((A 0 k).toInt64)]) (rest := []) (List.mem_append_left _ (List.mem_of_getElem? (i := 0) rfl)) rfl (c_X11_say l E a f9 (syP (A 0) (dgT T f A sh sk) k) A9 tl ((A 0 k).toInt64)) (List.Perm.refl _) gX11_digest_X11_say rfl rfl rfl hd_X11_say ⟨by decide, by decide⟩ rfl (Nat.le_of_ble_eq_true rfl) dX11_digest_82 ⟨Nat.le_of_ble_eq_true rfl, Nat.le_of_ble_eq_true rfl⟩ (fun v_ w_ hvw => ?_)
                rw [hvw.1, hvw.2]
                clear hvw
                refine q_at (pc' := 85) (st' := []) (ws' := mC E a f9 ((31 : Int64) * (syP (A 0) (dgT T f A sh sk) k) + ((A 0 k).toInt64)) A9 ++ tl) (k' := 0) (n' := 0) rfl rfl rfl rfl rfl ?_
                refine q_iinc F 1 (v := nI (k + 1)) (lv' := [(1, .int (nI (k + 1))), (0, .ref (a 32))]) dX11_digest_85 rfl (nI_1 _) (by decide) rfl ?_
                refine q_goto F (tgt := 66) dX11_digest_88 (by decide) ?_
                refine q_lv [1, 0] (lv' := [(0, .ref (a 32)), (1, .int (nI (k + 1)))]) rfl ?_
                refine q_to (lv' := [(0, .ref (a 32)), (1, .int (nI (k + 1)))]) (st' := []) (ws' := mC E a f9 (syP (A 0) (dgT T f A sh sk) (k + 1)) A9 ++ tl) rfl rfl (by rw [syP, sy]) ?_
                exact ih_66 (k + 1) f9 A9 (by omega) (hkf) (hka) (by omega)
          refine q_lv [1, 0] (lv' := [(0, .ref (a 32)), (1, .int (nI 0))]) rfl ?_
          refine q_to (lv' := [(0, .ref (a 32)), (1, .int (nI 0))]) (st' := []) (ws' := mC E a f (syP (A 0) (dgT T f A sh sk) 0) A ++ tl) rfl rfl (by rw [syP, dgT_0 (by simpa using hb_57)]) ?_
          exact lb66 (pm - 0 + 1) 0 f A (by omega) (kpF_r _) (kpA_r _) (Nat.lt_succ_self _)
        · skip
          have hb_57 := bI_0 h_57
          refine q_aload_n F 0 dX11_digest_60 rfl ?_
          refine q_callV F (ci := 11) (As := []) (rest := []) (List.mem_append_left _ (List.mem_of_getElem? (i := 0) rfl)) rfl (c_X11_sayTown l E a f (syO (A 7) (tN T)) A tl T hm hn hR hO sk h20 hsk sh hsh hp3 (hne (by simpa using hb_57))) (List.Perm.refl _) gX11_digest_X11_sayTown rfl rfl rfl hd_X11_sayTown ⟨by decide, by decide⟩ rfl (Nat.le_of_ble_eq_true rfl) dX11_digest_61 ⟨Nat.le_of_ble_eq_true rfl, Nat.le_of_ble_eq_true rfl⟩ (fun v_ w_ hvw => ?_)
          obtain ⟨hv_, f1, A1, hw_, hkf1, hka1⟩ := hvw
          rw [hv_, hw_]
          refine q_at (pc' := 64) (st' := []) (ws' := mC E a f1 (syE (syL T f A (syO (A 7) (tN T)) 3) (lbA T (f 5) (A 7) (f 3) (f 4)) (cnt (shB T (A 7)) (tN T)) (guC T (A 7) (A 21) sh sk 30) (guL T (A 7) (A 21) sh sk 30)) A1 ++ tl) (k' := 0) (n' := 0) rfl rfl rfl rfl rfl ?_
          refine q_iconst F dX11_digest_64 (v := nI 0) (by decide) ?_
          refine q_istore_n F (lv' := [(1, .int (nI 0)), (0, .ref (a 32))]) dX11_digest_65 (by decide) rfl ?_
          have lb66 : ∀ (fu : Nat) (k : Nat) (f9 : Nat → Int32) (A9 : Nat → Nat → Int32) (hk : k ≤ pm) (hkf : kpF f f9) (hka : kpA A A9), pm - k < fu → gW p_ l e_ (rmL 6 0 0) s_ m_ args_ below_ meth_ c_ E A_ 3 (MQ below_ (gQ E A_ P_) args_ s_ 0 0 A_) 66 [(0, .ref (a 32)), (1, .int (nI k))] [] (mC E a f9 (syP (A 0) (dgT T f A sh sk) k) A9 ++ tl) 0 0 := by
            intro fu_66
            induction fu_66 with
            | zero => intro k f9 A9 hk hkf hka hfu; exact absurd hfu (Nat.not_lt_zero _)
            | succ fu_66 ih_66 =>
              intro k f9 A9 hk hkf hka hfu_66
              refine q_iload_n F 1 dX11_digest_66 rfl ?_
              refine q_aload_n F 0 dX11_digest_67 rfl ?_
              refine q_get F (ci := 11) (j := 1) (v := .int (f9 1)) (List.mem_append_left _ (List.mem_of_getElem? (i := 0) rfl)) rfl hi11 (by decide) hf50_11 rfl rfl dX11_digest_68 ?_
              refine q_toi (nI pm) (((hkf 1 rfl).trans h1)) ?_
              refine q_icmp_ge F (tgt := 91) dX11_digest_71 (by decide) (fun h_71 => ?_) (fun h_71 => ?_)
              · skip
                have hn_71 : k ≥ pm := nf_ge_t (by omega) (by omega) h_71
                obtain rfl : pm = k := by omega
                refine q_iconst F dX11_digest_91 (v := nI 0) (by decide) ?_
                refine q_istore_n F (lv' := [(1, .int (nI 0)), (0, .ref (a 32))]) dX11_digest_92 (by decide) rfl ?_
                have lb93 : ∀ (fu : Nat) (m : Nat) (hm11 : m ≤ 11), 11 - m < fu → gW p_ l e_ (rmL 6 0 0) s_ m_ args_ below_ meth_ c_ E A_ 3 (MQ below_ (gQ E A_ P_) args_ s_ 0 0 A_) 93 [(0, .ref (a 32)), (1, .int (nI m))] [] (mC E a f9 (syN T f A (syP (A 0) (dgT T f A sh sk) pm) m) A9 ++ tl) 0 0 := by
                  intro fu_93
                  induction fu_93 with
                  | zero => intro m hm11 hfu; exact absurd hfu (Nat.not_lt_zero _)
                  | succ fu_93 ih_93 =>
                    intro m hm11 hfu_93
                    refine q_iload_n F 1 dX11_digest_93 rfl ?_
                    refine q_bipush F dX11_digest_94 (v := nI 11) (by decide) ?_
                    refine q_icmp_ge F (tgt := 115) dX11_digest_96 (by decide) (fun h_96 => ?_) (fun h_96 => ?_)
                    · skip
                      have hn_96 : m ≥ 11 := nf_ge_t (by omega) (by omega) h_96
                      obtain rfl : m = 11 := by omega
                      refine q_aload_n F 0 dX11_digest_115 rfl ?_
                      refine q_get F (ci := 11) (j := 31) (v := .long (syN T f A (syP (A 0) (dgT T f A sh sk) pm) 11)) (List.mem_append_left _ (List.mem_of_getElem? (i := 0) rfl)) rfl hi11 (by decide) hf230_11 rfl rfl dX11_digest_116 ?_
                      exact q_lret F hr_ dX11_digest_119 (hp_ _ _ ⟨rfl, f9, A9, rfl, hkf, hka⟩)
                    · skip
                      have hn_96 : m < 11 := nf_ge_f (by omega) (by omega) h_96
                      refine q_aload_n F 0 dX11_digest_99 rfl ?_
                      refine q_aload_n F 0 dX11_digest_100 rfl ?_
                      refine q_iload_n F 1 dX11_digest_101 rfl ?_
                      refine q_callV F (ci := 11) (As := [.int (nI m)]) (rest := [.ref (a 32)]) (List.mem_append_left _ (List.mem_of_getElem? (i := 0) rfl)) rfl (c_X11_countOf l E a f9 (syN T f A (syP (A 0) (dgT T f A sh sk) pm) m) A9 tl T ((hkf 2 rfl).trans hm) hn (nI m)) (List.Perm.refl _) gX11_digest_X11_countOf rfl rfl rfl hd_X11_countOf ⟨by decide, by decide⟩ rfl (Nat.le_of_ble_eq_true rfl) dX11_digest_102 ⟨Nat.le_of_ble_eq_true rfl, Nat.le_of_ble_eq_true rfl⟩ (fun v_ w_ hvw => ?_)
                      rw [hvw.1, hvw.2]
                      clear hvw
                      refine q_at (pc' := 105) (st' := [.int (couM T f9 A9 (nI m)), .ref (a 32)]) (ws' := mC E a f9 (syN T f A (syP (A 0) (dgT T f A sh sk) pm) m) A9 ++ tl) (k' := 0) (n' := 0) rfl rfl rfl rfl rfl ?_
                      refine q_toi (couM T f A (nI m)) (couM_kp hkf hka _) ?_
                      refine q_i2l F dX11_digest_105 ?_
                      refine q_callV F (ci := 11) (As := [.long ((couM T f A (nI m)).toInt64)]) (rest := []) (List.mem_append_left _ (List.mem_of_getElem? (i := 0) rfl)) rfl (c_X11_say l E a f9 (syN T f A (syP (A 0) (dgT T f A sh sk) pm) m) A9 tl ((couM T f A (nI m)).toInt64)) (List.Perm.refl _) gX11_digest_X11_say rfl rfl rfl hd_X11_say ⟨by decide, by decide⟩ rfl (Nat.le_of_ble_eq_true rfl) dX11_digest_106 ⟨Nat.le_of_ble_eq_true rfl, Nat.le_of_ble_eq_true rfl⟩ (fun v_ w_ hvw => ?_)
                      rw [hvw.1, hvw.2]
                      clear hvw
                      refine q_at (pc' := 109) (st' := []) (ws' := mC E a f9 ((31 : Int64) * (syN T f A (syP (A 0) (dgT T f A sh sk) pm) m) + ((couM T f A (nI m)).toInt64)) A9 ++ tl) (k' := 0) (n' := 0) rfl rfl rfl rfl rfl ?_
                      refine q_iinc F 1 (v := nI (m + 1)) (lv' := [(1, .int (nI (m + 1))), (0, .ref (a 32))]) dX11_digest_109 rfl (nI_1 _) (by decide) rfl ?_
                      refine q_goto F (tgt := 93) dX11_digest_112 (by decide) ?_
                      refine q_lv [1, 0] (lv' := [(0, .ref (a 32)), (1, .int (nI (m + 1)))]) rfl ?_
                      refine q_to (lv' := [(0, .ref (a 32)), (1, .int (nI (m + 1)))]) (st' := []) (ws' := mC E a f9 (syN T f A (syP (A 0) (dgT T f A sh sk) pm) (m + 1)) A9 ++ tl) rfl rfl (by rw [syN, sy]) ?_
                      exact ih_93 (m + 1) (by omega) (by omega)
                refine q_lv [1, 0] (lv' := [(0, .ref (a 32)), (1, .int (nI 0))]) rfl ?_
                refine q_to (lv' := [(0, .ref (a 32)), (1, .int (nI 0))]) (st' := []) (ws' := mC E a f9 (syN T f A (syP (A 0) (dgT T f A sh sk) pm) 0) A9 ++ tl) rfl rfl (by rfl) ?_
                exact lb93 (11 - 0 + 1) 0 (by omega) (Nat.lt_succ_self _)
              · skip
                have hn_71 : k < pm := nf_ge_f (by omega) (by omega) h_71
                refine q_aload_n F 0 dX11_digest_74 rfl ?_
                refine q_aload_n F 0 dX11_digest_75 rfl ?_
                refine q_get F (ci := 11) (j := 0) (v := .ref (a 0)) (List.mem_append_left _ (List.mem_of_getElem? (i := 0) rfl)) rfl hi11 (by decide) hf7_11 rfl rfl dX11_digest_76 ?_
                refine q_iload_n F 1 dX11_digest_79 rfl ?_
                refine q_iald F (f := A9 0) (List.mem_append_left _ (List.mem_of_getElem? (i := 1) rfl)) k rfl (by omega) (by decide) dX11_digest_80 ?_
                refine q_toi (A 0 k) (by rw [hka 0 rfl]) ?_
                refine q_i2l F dX11_digest_81 ?_
                refine q_callV F (ci := 11) (As := [.long ((A 0 k).toInt64)]) (rest := []) (List.mem_append_left _ (List.mem_of_getElem? (i := 0) rfl)) rfl (c_X11_say l E a f9 (syP (A 0) (dgT T f A sh sk) k) A9 tl ((A 0 k).toInt64)) (List.Perm.refl _) gX11_digest_X11_say rfl rfl rfl hd_X11_say ⟨by decide, by decide⟩ rfl (Nat.le_of_ble_eq_true rfl) dX11_digest_82 ⟨Nat.le_of_ble_eq_true rfl, Nat.le_of_ble_eq_true rfl⟩ (fun v_ w_ hvw => ?_)
                rw [hvw.1, hvw.2]
                clear hvw
                refine q_at (pc' := 85) (st' := []) (ws' := mC E a f9 ((31 : Int64) * (syP (A 0) (dgT T f A sh sk) k) + ((A 0 k).toInt64)) A9 ++ tl) (k' := 0) (n' := 0) rfl rfl rfl rfl rfl ?_
                refine q_iinc F 1 (v := nI (k + 1)) (lv' := [(1, .int (nI (k + 1))), (0, .ref (a 32))]) dX11_digest_85 rfl (nI_1 _) (by decide) rfl ?_
                refine q_goto F (tgt := 66) dX11_digest_88 (by decide) ?_
                refine q_lv [1, 0] (lv' := [(0, .ref (a 32)), (1, .int (nI (k + 1)))]) rfl ?_
                refine q_to (lv' := [(0, .ref (a 32)), (1, .int (nI (k + 1)))]) (st' := []) (ws' := mC E a f9 (syP (A 0) (dgT T f A sh sk) (k + 1)) A9 ++ tl) rfl rfl (by rw [syP, sy]) ?_
                exact ih_66 (k + 1) f9 A9 (by omega) (hkf) (hka) (by omega)
          refine q_lv [1, 0] (lv' := [(0, .ref (a 32)), (1, .int (nI 0))]) rfl ?_
          refine q_to (lv' := [(0, .ref (a 32)), (1, .int (nI 0))]) (st' := []) (ws' := mC E a f1 (syP (A 0) (dgT T f A sh sk) 0) A1 ++ tl) rfl rfl (by rw [syP, dgT_1 (by simpa using hb_57)]) ?_
          exact lb66 (pm - 0 + 1) 0 f1 A1 (by omega) (hkf1) (hka1) (Nat.lt_succ_self _)
      · skip
        have hn_14 : i < (tN T) := nf_ge_f (by omega) (by omega) h_14
        refine q_iconst F dX11_digest_17 (v := nI 0) (by decide) ?_
        refine q_istore_n F (lv' := [(2, .int (nI 0)), (0, .ref (a 32)), (1, .int (nI i))]) dX11_digest_18 (by decide) rfl ?_
        have lb19 : ∀ (fu : Nat) (j : Nat) (hj : j ≤ 8), 8 - j < fu → gW p_ l e_ (rmL 6 0 0) s_ m_ args_ below_ meth_ c_ E A_ 3 (MQ below_ (gQ E A_ P_) args_ s_ 0 0 A_) 19 [(0, .ref (a 32)), (1, .int (nI i)), (2, .int (nI j))] [] (mC E a f (syI (A 7) i (syO (A 7) i) j) A ++ tl) 0 0 := by
          intro fu_19
          induction fu_19 with
          | zero => intro j hj hfu; exact absurd hfu (Nat.not_lt_zero _)
          | succ fu_19 ih_19 =>
            intro j hj hfu_19
            refine q_iload_n F 2 dX11_digest_19 rfl ?_
            refine q_bipush F dX11_digest_20 (v := nI 8) (by decide) ?_
            refine q_icmp_ge F (tgt := 47) dX11_digest_22 (by decide) (fun h_22 => ?_) (fun h_22 => ?_)
            · skip
              have hn_22 : j ≥ 8 := nf_ge_t (by omega) (by omega) h_22
              obtain rfl : j = 8 := by omega
              refine q_iinc F 1 (v := nI (i + 1)) (lv' := [(1, .int (nI (i + 1))), (0, .ref (a 32)), (2, .int (nI 8))]) dX11_digest_47 rfl (nI_1 _) (by decide) rfl ?_
              refine q_goto F (tgt := 9) dX11_digest_50 (by decide) ?_
              refine q_lv [1, 0] (lv' := [(0, .ref (a 32)), (1, .int (nI (i + 1)))]) rfl ?_
              refine q_to (lv' := [(0, .ref (a 32)), (1, .int (nI (i + 1)))]) (st' := []) (ws' := mC E a f (syO (A 7) (i + 1)) A ++ tl) rfl rfl (by rw [show syO (A 7) (i + 1) = syI (A 7) i (syO (A 7) i) 8 from rfl]) ?_
              exact ih_9 (i + 1) (by omega) (by omega)
            · skip
              have hn_22 : j < 8 := nf_ge_f (by omega) (by omega) h_22
              refine q_aload_n F 0 dX11_digest_25 rfl ?_
              refine q_aload_n F 0 dX11_digest_26 rfl ?_
              refine q_get F (ci := 11) (j := 7) (v := .ref (a 7)) (List.mem_append_left _ (List.mem_of_getElem? (i := 0) rfl)) rfl hi11 (by decide) hf13_11 rfl rfl dX11_digest_27 ?_
              refine q_bipush F dX11_digest_30 (v := nI 8) (by decide) ?_
              refine q_iload_n F 1 dX11_digest_32 rfl ?_
              refine q_imul F dX11_digest_33 ?_
              refine q_toi (nI (8 * i)) (pk_mul _ _) ?_
              refine q_iload_n F 2 dX11_digest_34 rfl ?_
              refine q_iadd F dX11_digest_35 ?_
              refine q_toi (nI (8 * i + j)) (nI_add _ _) ?_
              refine q_iald F (f := A 7) (List.mem_append_left _ (List.mem_of_getElem? (i := 2) rfl)) (8 * i + j) rfl (by omega) (by decide) dX11_digest_36 ?_
              refine q_i2l F dX11_digest_37 ?_
              refine q_callV F (ci := 11) (As := [.long ((A 7 (8 * i + j)).toInt64)]) (rest := []) (List.mem_append_left _ (List.mem_of_getElem? (i := 0) rfl)) rfl (c_X11_say l E a f (syI (A 7) i (syO (A 7) i) j) A tl ((A 7 (8 * i + j)).toInt64)) (List.Perm.refl _) gX11_digest_X11_say rfl rfl rfl hd_X11_say ⟨by decide, by decide⟩ rfl (Nat.le_of_ble_eq_true rfl) dX11_digest_38 ⟨Nat.le_of_ble_eq_true rfl, Nat.le_of_ble_eq_true rfl⟩ (fun v_ w_ hvw => ?_)
              rw [hvw.1, hvw.2]
              clear hvw
              refine q_at (pc' := 41) (st' := []) (ws' := mC E a f ((31 : Int64) * (syI (A 7) i (syO (A 7) i) j) + ((A 7 (8 * i + j)).toInt64)) A ++ tl) (k' := 0) (n' := 0) rfl rfl rfl rfl rfl ?_
              refine q_iinc F 2 (v := nI (j + 1)) (lv' := [(2, .int (nI (j + 1))), (0, .ref (a 32)), (1, .int (nI i))]) dX11_digest_41 rfl (nI_1 _) (by decide) rfl ?_
              refine q_goto F (tgt := 19) dX11_digest_44 (by decide) ?_
              refine q_lv [1, 2, 0] (lv' := [(0, .ref (a 32)), (1, .int (nI i)), (2, .int (nI (j + 1)))]) rfl ?_
              refine q_to (lv' := [(0, .ref (a 32)), (1, .int (nI i)), (2, .int (nI (j + 1)))]) (st' := []) (ws' := mC E a f (syI (A 7) i (syO (A 7) i) (j + 1)) A ++ tl) rfl rfl (by rw [syI, sy]) ?_
              exact ih_19 (j + 1) (by omega) (by omega)
        refine q_lv [1, 2, 0] (lv' := [(0, .ref (a 32)), (1, .int (nI i)), (2, .int (nI 0))]) rfl ?_
        refine q_to (lv' := [(0, .ref (a 32)), (1, .int (nI i)), (2, .int (nI 0))]) (st' := []) (ws' := mC E a f (syI (A 7) i (syO (A 7) i) 0) A ++ tl) rfl rfl (by rfl) ?_
        exact lb19 (8 - 0 + 1) 0 (by omega) (Nat.lt_succ_self _)
  refine q_lv [1, 0] (lv' := [(0, .ref (a 32)), (1, .int (nI 0))]) rfl ?_
  refine q_to (lv' := [(0, .ref (a 32)), (1, .int (nI 0))]) (st' := []) (ws' := mC E a f (syO (A 7) 0) A ++ tl) rfl rfl (by rfl) ?_
  exact lb9 (tN T - 0 + 1) 0 (by omega) (Nat.lt_succ_self _)
