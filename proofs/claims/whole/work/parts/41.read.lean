set_option maxHeartbeats 4000000 in
set_option maxRecDepth 100000 in
theorem c_X8_readFrom (l : Launch) (E : gEnv) (t : Nat → Nat) (T : gTown) (hT6 : tN T ≤ 6) (q : Nat → Nat) (n : Nat) (f : Nat → Int32) (tl : va_W) (hP : isIn (pC E q n f) tl) (hn : n ≤ 30) (kf : Nat → Nat) (hn5 : n % 5 = 4) (hkf : ∀ i, 5 * i + 3 < n → kf i < 5 ∧ kbF (f (5 * i)) = nI (kf i)) : Cn l E yX8_readFrom wsX8_readFrom (rmL 5 6 18) [.ref (t 0), .ref (q 0)] (tD E t (tR T) (nI (tN T)) (mwB T 6) ++ tl) 6 18 (fun v w => v = none ∧ ∃ (ad : Nat → Nat) (X : va_W), w = tC E t (twT f kf ((n + 1) / 5) ad) ++ (X ++ tl) ∧ isHs (twT f kf ((n + 1) / 5) ad) X) := by
  refine Cn.of (own := RX8) (cc := cX8_readFrom) (maxL := 4) (ret := none) (lv := [(0, .ref (t 0)), (1, .ref (q 0))]) (by decide) rfl rfl (Nat.le_of_ble_eq_true rfl) rfl ?_
  intro p_ e_ s_ m_ args_ below_ meth_ c_ A_ P_ hp_ F hr_ hnm_
  have hd_X6_housesTold : yX6_housesTold.cls = RX6 ∧ yX6_housesTold.cls ≠ "java/lang/invoke/MethodHandle" ∧ yX6_housesTold.cls ≠ "java/lang/invoke/VarHandle" ∧ (parseMethodDescriptor yX6_housesTold.desc).map (fun d => d.parameters.length) = some 0 := by decide +kernel
  have hm30_0 : Cond.methodLink RX8 30 Lib.Math.min.name ∈ wsX8_readFrom := by decide +kernel
  have hm30_1 : Cond.static Lib.Math.min.name ∈ wsX8_readFrom := by decide +kernel
  have hm30_2 : Cond.initialized "java/lang/Math" ∈ wsX8_readFrom := by decide +kernel
  have hm30_3 : Cond.code Lib.Math.min.name Lib.Math.min.code 2 (some .int) ∈ wsX8_readFrom := by decide +kernel
  have hf36_8 : Cond.fieldLink RX8 36 "KeyOnStreet$Town" (TX8 2).2.1 (TX8 2).2.2.1 ∈ wsX8_readFrom := by decide +kernel
  have hi8 : ∀ w ∈ u_ws RX8 TX8 4, w ∈ wsX8_readFrom := by decide +kernel
  have hf40_8 : Cond.fieldLink RX8 40 "KeyOnStreet$Town" (TX8 3).2.1 (TX8 3).2.2.1 ∈ wsX8_readFrom := by decide +kernel
  have hf11_8 : Cond.fieldLink RX8 11 "KeyOnStreet$Town" (TX8 0).2.1 (TX8 0).2.2.1 ∈ wsX8_readFrom := by decide +kernel
  have hd_X6_houseTold : yX6_houseTold.cls = RX6 ∧ yX6_houseTold.cls ≠ "java/lang/invoke/MethodHandle" ∧ yX6_houseTold.cls ≠ "java/lang/invoke/VarHandle" ∧ (parseMethodDescriptor yX6_houseTold.desc).map (fun d => d.parameters.length) = some 1 := by decide +kernel
  have hcl47 : Cond.classLink RX8 47 RX4 ∈ wsX8_readFrom := by decide +kernel
  refine q_aload_n F 0 dX8_readFrom_0 rfl ?_
  refine q_aload_n F 1 dX8_readFrom_1 rfl ?_
  refine q_callV F (ci := 6) (As := []) (rest := [.ref (t 0)]) (List.mem_append_right _ (hP _ (List.mem_of_getElem? (i := 0) rfl))) rfl (c_X6_housesTold l E q n f (tD E t (tR T) (nI (tN T)) (mwB T 6) ++ tl) (isIn.r _ hP) hn) (List.Perm.refl _) gX8_readFrom_X6_housesTold rfl rfl rfl hd_X6_housesTold ⟨by decide, by decide⟩ rfl (Nat.le_of_ble_eq_true rfl) dX8_readFrom_2 ⟨Nat.le_of_ble_eq_true rfl, Nat.le_of_ble_eq_true rfl⟩ (fun v_ w_ hvw => ?_)
  rw [hvw.1, hvw.2]
  clear hvw
  refine q_at (pc' := 5) (st' := [.int (nI ((n + 1) / 5)), .ref (t 0)]) (ws' := tD E t (tR T) (nI (tN T)) (mwB T 6) ++ tl) (k' := 0) (n' := 0) rfl rfl rfl rfl rfl ?_
  refine q_bipush F dX8_readFrom_5 (v := nI 6) (by decide) ?_
  refine q_mmin F hm30_0 hm30_1 hm30_2 hm30_3 (by decide) (Nat.le_of_ble_eq_true rfl) (by decide) (by decide) dX8_readFrom_7 ?_
  refine q_toi (mn (nI ((n + 1) / 5)) (nI 6)) rfl ?_
  refine q_toi (nI ((n + 1) / 5)) (mn_le (by omega)) ?_
  refine q_put F (j := 2) 0 rfl rfl hi8 tyX8 tyX8_ok nmX8 (by decide) hf36_8 rfl rfl rfl rfl (Nat.le_of_ble_eq_true rfl) dX8_readFrom_10 (ws' := tD E t (tR T) (nI ((n + 1) / 5)) (mwB T 6) ++ tl) rfl ?_
  refine q_aload_n F 0 dX8_readFrom_13 rfl ?_
  refine q_iconst F dX8_readFrom_14 (v := nI 0) (by decide) ?_
  refine q_put F (j := 3) 0 rfl rfl hi8 tyX8 tyX8_ok nmX8 (by decide) hf40_8 rfl rfl rfl rfl (Nat.le_of_ble_eq_true rfl) dX8_readFrom_15 (ws' := tD E t (tR T) (nI ((n + 1) / 5)) (nI 0) ++ tl) rfl ?_
  refine q_iconst F dX8_readFrom_18 (v := nI 0) (by decide) ?_
  refine q_istore_n F (lv' := [(2, .int (nI 0)), (0, .ref (t 0)), (1, .ref (q 0))]) dX8_readFrom_19 (by decide) rfl ?_
  have lb20 : ∀ (fu : Nat) (i : Nat) (ad9 : Nat → Nat) (X9 : va_W) (hi : i ≤ 6) (hP9 : isIn (pC E q n f) (X9 ++ tl)) (hs9 : ∀ j, j < i → j < ((n + 1) / 5) → (ad9 j, hE (kf j) (f (5 * j + 1) - nI 48) (f (5 * j + 2) - nI 48) (f (5 * j + 3) - nI 48)) ∈ X9), 6 - i < fu → gW p_ l e_ (rmL 5 6 18) s_ m_ args_ below_ meth_ c_ E A_ 4 (MQ below_ (gQ E A_ P_) args_ s_ 6 18 A_) 20 [(0, .ref (t 0)), (1, .ref (q 0)), (2, .int (nI i))] [] (tD E t (rdR T ((n + 1) / 5) ad9 i) (nI ((n + 1) / 5)) (mwK kf ((n + 1) / 5) i) ++ (X9 ++ tl)) i (3 * i) := by
    intro fu_20
    induction fu_20 with
    | zero => intro i ad9 X9 hi hP9 hs9 hfu; exact absurd hfu (Nat.not_lt_zero _)
    | succ fu_20 ih_20 =>
      intro i ad9 X9 hi hP9 hs9 hfu_20
      refine q_iload_n F 2 dX8_readFrom_20 rfl ?_
      refine q_bipush F dX8_readFrom_21 (v := nI 6) (by decide) ?_
      refine q_icmp_ge F (tgt := 76) dX8_readFrom_23 (by decide) (fun h_23 => ?_) (fun h_23 => ?_)
      · skip
        have hn_23 : i ≥ 6 := nf_ge_t (by omega) (by omega) h_23
        obtain rfl : i = 6 := by omega
        refine q_vret F hr_ dX8_readFrom_76 (hp_ _ _ ⟨rfl, ad9, X9, ?_, ?_⟩)
        · rw [rdR_6 hT6 (show ((n + 1) / 5) ≤ 6 by omega) f kf, ← mwK_B f kf ((n + 1) / 5) ad9]; rfl
        · intro j hj; have hj2 : j < ((n + 1) / 5) := hj; exact ⟨(hkf j (by omega)).1, hs9 j (by omega) hj2⟩
      · skip
        have hn_23 : i < 6 := nf_ge_f (by omega) (by omega) h_23
        refine q_iload_n F 2 dX8_readFrom_26 rfl ?_
        refine q_aload_n F 0 dX8_readFrom_27 rfl ?_
        refine q_get F (ci := 8) (j := 2) (v := .int (nI ((n + 1) / 5))) (List.mem_append_left _ (List.mem_of_getElem? (i := 0) rfl)) rfl hi8 (by decide) hf36_8 rfl rfl dX8_readFrom_28 ?_
        refine q_icmp_ge F (tgt := 42) dX8_readFrom_31 (by decide) (fun h_31 => ?_) (fun h_31 => ?_)
        · skip
          have hn_31 : i ≥ ((n + 1) / 5) := nf_ge_t (by omega) (by omega) h_31
          refine q_null F dX8_readFrom_42 ?_
          refine q_astore_nN F (lv' := [(3, .null), (0, .ref (t 0)), (1, .ref (q 0)), (2, .int (nI i))]) dX8_readFrom_43 (by decide) rfl ?_
          refine q_aload_n F 1 dX8_readFrom_44 rfl ?_
          refine q_get F (ci := 8) (j := 0) (v := .ref (t 1)) (List.mem_append_left _ (List.mem_of_getElem? (i := 0) rfl)) rfl hi8 (by decide) hf11_8 rfl rfl dX8_readFrom_45 ?_
          refine q_iload_n F 3 dX8_readFrom_48 rfl ?_
          refine q_aload_nN F 0 dX8_readFrom_49 rfl ?_
          refine q_ast2N F 1 rfl i rfl (by omega) (by decide) dX8_readFrom_50 (ws' := tD E t (va_up (rdR T ((n + 1) / 5) ad9 i) i none) (nI ((n + 1) / 5)) (mwK kf ((n + 1) / 5) i) ++ (X9 ++ tl)) rfl ?_
          refine q_aload_nN F 0 dX8_readFrom_51 rfl ?_
          refine q_instN F dX8_readFrom_52 ?_
          refine q_toi (nI 0) rfl ?_
          refine q_if_eq F (tgt := 70) dX8_readFrom_55 (by decide) (fun h_55 => ?_) (fun h_55 => ?_)
          · skip
            refine q_iinc F 3 (v := nI (i + 1)) (lv' := [(2, .int (nI (i + 1))), (3, .null), (0, .ref (t 0)), (1, .ref (q 0))]) dX8_readFrom_70 rfl (nI_1 _) (by decide) rfl ?_
            refine q_goto F (tgt := 20) dX8_readFrom_73 (by decide) ?_
            refine q_widen (k' := i + 1) (n' := 3 * (i + 1)) (by omega) (by omega) ?_
            refine q_lv [2, 3, 0] (lv' := [(0, .ref (t 0)), (1, .ref (q 0)), (2, .int (nI (i + 1)))]) rfl ?_
            refine q_to (lv' := [(0, .ref (t 0)), (1, .ref (q 0)), (2, .int (nI (i + 1)))]) (st' := []) (ws' := tD E t (rdR T ((n + 1) / 5) ad9 (i + 1)) (nI ((n + 1) / 5)) (mwK kf ((n + 1) / 5) (i + 1)) ++ (X9 ++ tl)) rfl rfl (by rw [rdR_n (by omega), mwK, if_neg (fun z => absurd z.1 (by omega))]) ?_
            exact ih_20 (i + 1) ad9 X9 (by omega) (hP9) (fun j hj hjn => hs9 j (by omega) hjn) (by omega)
          · skip
            exact absurd h_55 (by decide)
        · skip
          have hn_31 : i < ((n + 1) / 5) := nf_ge_f (by omega) (by omega) h_31
          refine q_aload_n F 1 dX8_readFrom_34 rfl ?_
          refine q_iload_n F 2 dX8_readFrom_35 rfl ?_
          refine q_callV F (ci := 6) (As := [.int (nI i)]) (rest := []) (List.mem_append_right _ (hP9 _ (List.mem_of_getElem? (i := 0) rfl))) rfl (c_X6_houseTold l E q n f (tD E t (rdR T ((n + 1) / 5) ad9 i) (nI ((n + 1) / 5)) (mwK kf ((n + 1) / 5) i) ++ (X9 ++ tl)) (isIn.r _ hP9) hn i (kf i) (by omega) (hkf i (by omega)).1 (hkf i (by omega)).2) (List.Perm.refl _) gX8_readFrom_X6_houseTold rfl rfl rfl hd_X6_houseTold ⟨by decide, by decide⟩ rfl (Nat.le_of_ble_eq_true rfl) dX8_readFrom_36 ⟨by show i + 1 ≤ 6; omega, by show 3 * i + 3 ≤ 18; omega⟩ (fun v_ w_ hvw => ?_)
          obtain ⟨b_1, hv_, hw_⟩ := hvw
          rw [hv_, hw_]
          refine q_at (pc' := 39) (st' := [.ref b_1]) (ws' := oV b_1 (kci (kf i)) ([.int (f (5 * i + 1) - nI 48), .int (f (5 * i + 2) - nI 48), .int (f (5 * i + 3) - nI 48)]) ++ (tD E t (rdR T ((n + 1) / 5) ad9 i) (nI ((n + 1) / 5)) (mwK kf ((n + 1) / 5) i) ++ (X9 ++ tl))) (k' := i + 1) (n' := 3 * i + 3) rfl rfl rfl rfl rfl ?_
          refine q_goto F (tgt := 43) dX8_readFrom_39 (by decide) ?_
          have hk5 := (hkf i (by omega)).1
          rcases (show kf i = 0 ∨ kf i = 1 ∨ kf i = 2 ∨ kf i = 3 ∨ kf i = 4 by omega) with ek | ek | ek | ek | ek
          · skip
            refine q_at (pc' := 43) (st' := [.ref b_1]) (ws' := oV b_1 0 ([.int (f (5 * i + 1) - nI 48), .int (f (5 * i + 2) - nI 48), .int (f (5 * i + 3) - nI 48)]) ++ (tD E t (rdR T ((n + 1) / 5) ad9 i) (nI ((n + 1) / 5)) (mwK kf ((n + 1) / 5) i) ++ (X9 ++ tl))) (k' := i + 1) (n' := 3 * i + 3) rfl rfl (by rw [ek]; rfl) rfl rfl ?_
            refine q_astore_n F (lv' := [(3, .ref b_1), (0, .ref (t 0)), (1, .ref (q 0)), (2, .int (nI i))]) dX8_readFrom_43 (by decide) rfl ?_
            refine q_aload_n F 1 dX8_readFrom_44 rfl ?_
            refine q_get F (ci := 8) (j := 0) (v := .ref (t 1)) (List.mem_append_right _ (List.mem_append_left _ (List.mem_of_getElem? (i := 0) rfl))) rfl hi8 (by decide) hf11_8 rfl rfl dX8_readFrom_45 ?_
            refine q_iload_n F 3 dX8_readFrom_48 rfl ?_
            refine q_aload_n F 0 dX8_readFrom_49 rfl ?_
            refine q_perm pf1 ?_
            refine q_ast2 F 1 rfl i rfl (by omega) (by decide) (List.mem_append_right _ (List.mem_append_left _ (List.mem_of_getElem? (i := 0) rfl))) rfl dX8_readFrom_50 (ws' := tD E t (va_up (rdR T ((n + 1) / 5) ad9 i) i (some b_1)) (nI ((n + 1) / 5)) (mwK kf ((n + 1) / 5) i) ++ (oV b_1 0 ([.int (f (5 * i + 1) - nI 48), .int (f (5 * i + 2) - nI 48), .int (f (5 * i + 3) - nI 48)]) ++ (X9 ++ tl))) rfl ?_
            refine q_aload_n F 0 dX8_readFrom_51 rfl ?_
            refine q_instNo F (List.mem_append_right _ (List.mem_append_left _ (List.mem_of_getElem? (i := 0) rfl))) rfl hcl47 (by decide) dX8_readFrom_52 ?_
            refine q_toi (nI 0) rfl ?_
            refine q_if_eq F (tgt := 70) dX8_readFrom_55 (by decide) (fun h_55 => ?_) (fun h_55 => ?_)
            · skip
              refine q_iinc F 3 (v := nI (i + 1)) (lv' := [(2, .int (nI (i + 1))), (3, .ref b_1), (0, .ref (t 0)), (1, .ref (q 0))]) dX8_readFrom_70 rfl (nI_1 _) (by decide) rfl ?_
              refine q_goto F (tgt := 20) dX8_readFrom_73 (by decide) ?_
              refine q_widen (k' := i + 1) (n' := 3 * (i + 1)) (by omega) (by omega) ?_
              refine q_at (pc' := 20) (st' := []) (ws' := tD E t (va_up (rdR T ((n + 1) / 5) ad9 i) i (some b_1)) (nI ((n + 1) / 5)) (mwK kf ((n + 1) / 5) i) ++ ((oV b_1 0 ([.int (f (5 * i + 1) - nI 48), .int (f (5 * i + 2) - nI 48), .int (f (5 * i + 3) - nI 48)]) ++ X9) ++ tl)) (k' := i + 1) (n' := 3 * (i + 1)) rfl rfl rfl rfl rfl ?_
              refine q_lv [2, 3, 0] (lv' := [(0, .ref (t 0)), (1, .ref (q 0)), (2, .int (nI (i + 1)))]) rfl ?_
              refine q_to (lv' := [(0, .ref (t 0)), (1, .ref (q 0)), (2, .int (nI (i + 1)))]) (st' := []) (ws' := tD E t (rdR T ((n + 1) / 5) (va_up ad9 i b_1) (i + 1)) (nI ((n + 1) / 5)) (mwK kf ((n + 1) / 5) (i + 1)) ++ ((oV b_1 0 ([.int (f (5 * i + 1) - nI 48), .int (f (5 * i + 2) - nI 48), .int (f (5 * i + 3) - nI 48)]) ++ X9) ++ tl)) rfl rfl (by rw [rdR_s (by omega), mwK, if_neg (fun z => absurd (ek.symm.trans z.2) (by decide))]) ?_
              exact ih_20 (i + 1) (va_up ad9 i b_1) (oV b_1 0 ([.int (f (5 * i + 1) - nI 48), .int (f (5 * i + 2) - nI 48), .int (f (5 * i + 3) - nI 48)]) ++ X9) (by omega) (isIn.r _ hP) (fun j hj hjn => by (by_cases e : j = i); (subst e; rw [va_up_self]; refine List.mem_append_left _ ?_; rw [ek]; exact List.mem_singleton.mpr rfl); (rw [va_up_ne _ _ e]; exact List.mem_append_right _ (hs9 j (by omega) hjn))) (by omega)
            · skip
              exact absurd h_55 (by decide)
          · skip
            refine q_at (pc' := 43) (st' := [.ref b_1]) (ws' := oV b_1 4 ([.int (f (5 * i + 1) - nI 48), .int (f (5 * i + 2) - nI 48), .int (f (5 * i + 3) - nI 48)]) ++ (tD E t (rdR T ((n + 1) / 5) ad9 i) (nI ((n + 1) / 5)) (mwK kf ((n + 1) / 5) i) ++ (X9 ++ tl))) (k' := i + 1) (n' := 3 * i + 3) rfl rfl (by rw [ek]; rfl) rfl rfl ?_
            refine q_astore_n F (lv' := [(3, .ref b_1), (0, .ref (t 0)), (1, .ref (q 0)), (2, .int (nI i))]) dX8_readFrom_43 (by decide) rfl ?_
            refine q_aload_n F 1 dX8_readFrom_44 rfl ?_
            refine q_get F (ci := 8) (j := 0) (v := .ref (t 1)) (List.mem_append_right _ (List.mem_append_left _ (List.mem_of_getElem? (i := 0) rfl))) rfl hi8 (by decide) hf11_8 rfl rfl dX8_readFrom_45 ?_
            refine q_iload_n F 3 dX8_readFrom_48 rfl ?_
            refine q_aload_n F 0 dX8_readFrom_49 rfl ?_
            refine q_perm pf1 ?_
            refine q_ast2O F 1 rfl i rfl (by omega) (by decide) (List.mem_append_right _ (List.mem_append_left _ (List.mem_of_getElem? (i := 0) rfl))) rfl (by decide) dX8_readFrom_50 (ws' := tD E t (va_up (rdR T ((n + 1) / 5) ad9 i) i (some b_1)) (nI ((n + 1) / 5)) (mwK kf ((n + 1) / 5) i) ++ (oV b_1 4 ([.int (f (5 * i + 1) - nI 48), .int (f (5 * i + 2) - nI 48), .int (f (5 * i + 3) - nI 48)]) ++ (X9 ++ tl))) rfl ?_
            refine q_aload_n F 0 dX8_readFrom_51 rfl ?_
            refine q_instS F (List.mem_append_right _ (List.mem_append_left _ (List.mem_of_getElem? (i := 0) rfl))) rfl hcl47 dX8_readFrom_52 ?_
            refine q_toi (nI 1) rfl ?_
            refine q_if_eq F (tgt := 70) dX8_readFrom_55 (by decide) (fun h_55 => ?_) (fun h_55 => ?_)
            · skip
              exact absurd h_55 (by decide)
            · skip
              refine q_aload_n F 1 dX8_readFrom_58 rfl ?_
              refine q_dup F dX8_readFrom_59 rfl ?_
              refine q_get F (ci := 8) (j := 3) (v := .int (mwK kf ((n + 1) / 5) i)) (List.mem_append_left _ (List.mem_of_getElem? (i := 0) rfl)) rfl hi8 (by decide) hf40_8 rfl rfl dX8_readFrom_60 ?_
              refine q_iconst F dX8_readFrom_63 (v := nI 1) (by decide) ?_
              refine q_iload_n F 3 dX8_readFrom_64 rfl ?_
              refine q_ishl F dX8_readFrom_65 ?_
              refine q_ior F dX8_readFrom_66 ?_
              refine q_put F (j := 3) 0 rfl rfl hi8 tyX8 tyX8_ok nmX8 (by decide) hf40_8 rfl rfl rfl rfl (Nat.le_of_ble_eq_true rfl) dX8_readFrom_67 (ws' := tD E t (va_up (rdR T ((n + 1) / 5) ad9 i) i (some b_1)) (nI ((n + 1) / 5)) ((mwK kf ((n + 1) / 5) i) ||| ((nI 1) <<< ((nI i) &&& 31))) ++ (oV b_1 4 ([.int (f (5 * i + 1) - nI 48), .int (f (5 * i + 2) - nI 48), .int (f (5 * i + 3) - nI 48)]) ++ (X9 ++ tl))) rfl ?_
              refine q_iinc F 3 (v := nI (i + 1)) (lv' := [(2, .int (nI (i + 1))), (3, .ref b_1), (0, .ref (t 0)), (1, .ref (q 0))]) dX8_readFrom_70 rfl (nI_1 _) (by decide) rfl ?_
              refine q_goto F (tgt := 20) dX8_readFrom_73 (by decide) ?_
              refine q_widen (k' := i + 1) (n' := 3 * (i + 1)) (by omega) (by omega) ?_
              refine q_at (pc' := 20) (st' := []) (ws' := tD E t (va_up (rdR T ((n + 1) / 5) ad9 i) i (some b_1)) (nI ((n + 1) / 5)) ((mwK kf ((n + 1) / 5) i) ||| ((nI 1) <<< ((nI i) &&& 31))) ++ ((oV b_1 4 ([.int (f (5 * i + 1) - nI 48), .int (f (5 * i + 2) - nI 48), .int (f (5 * i + 3) - nI 48)]) ++ X9) ++ tl)) (k' := i + 1) (n' := 3 * (i + 1)) rfl rfl rfl rfl rfl ?_
              refine q_lv [2, 3, 0] (lv' := [(0, .ref (t 0)), (1, .ref (q 0)), (2, .int (nI (i + 1)))]) rfl ?_
              refine q_to (lv' := [(0, .ref (t 0)), (1, .ref (q 0)), (2, .int (nI (i + 1)))]) (st' := []) (ws' := tD E t (rdR T ((n + 1) / 5) (va_up ad9 i b_1) (i + 1)) (nI ((n + 1) / 5)) (mwK kf ((n + 1) / 5) (i + 1)) ++ ((oV b_1 4 ([.int (f (5 * i + 1) - nI 48), .int (f (5 * i + 2) - nI 48), .int (f (5 * i + 3) - nI 48)]) ++ X9) ++ tl)) rfl rfl (by rw [rdR_s (by omega), mwK, if_pos ⟨by omega, ek⟩]) ?_
              exact ih_20 (i + 1) (va_up ad9 i b_1) (oV b_1 4 ([.int (f (5 * i + 1) - nI 48), .int (f (5 * i + 2) - nI 48), .int (f (5 * i + 3) - nI 48)]) ++ X9) (by omega) (isIn.r _ hP) (fun j hj hjn => by (by_cases e : j = i); (subst e; rw [va_up_self]; refine List.mem_append_left _ ?_; rw [ek]; exact List.mem_singleton.mpr rfl); (rw [va_up_ne _ _ e]; exact List.mem_append_right _ (hs9 j (by omega) hjn))) (by omega)
          · skip
            refine q_at (pc' := 43) (st' := [.ref b_1]) (ws' := oV b_1 1 ([.int (f (5 * i + 1) - nI 48), .int (f (5 * i + 2) - nI 48), .int (f (5 * i + 3) - nI 48)]) ++ (tD E t (rdR T ((n + 1) / 5) ad9 i) (nI ((n + 1) / 5)) (mwK kf ((n + 1) / 5) i) ++ (X9 ++ tl))) (k' := i + 1) (n' := 3 * i + 3) rfl rfl (by rw [ek]; rfl) rfl rfl ?_
            refine q_astore_n F (lv' := [(3, .ref b_1), (0, .ref (t 0)), (1, .ref (q 0)), (2, .int (nI i))]) dX8_readFrom_43 (by decide) rfl ?_
            refine q_aload_n F 1 dX8_readFrom_44 rfl ?_
            refine q_get F (ci := 8) (j := 0) (v := .ref (t 1)) (List.mem_append_right _ (List.mem_append_left _ (List.mem_of_getElem? (i := 0) rfl))) rfl hi8 (by decide) hf11_8 rfl rfl dX8_readFrom_45 ?_
            refine q_iload_n F 3 dX8_readFrom_48 rfl ?_
            refine q_aload_n F 0 dX8_readFrom_49 rfl ?_
            refine q_perm pf1 ?_
            refine q_ast2O F 1 rfl i rfl (by omega) (by decide) (List.mem_append_right _ (List.mem_append_left _ (List.mem_of_getElem? (i := 0) rfl))) rfl (by decide) dX8_readFrom_50 (ws' := tD E t (va_up (rdR T ((n + 1) / 5) ad9 i) i (some b_1)) (nI ((n + 1) / 5)) (mwK kf ((n + 1) / 5) i) ++ (oV b_1 1 ([.int (f (5 * i + 1) - nI 48), .int (f (5 * i + 2) - nI 48), .int (f (5 * i + 3) - nI 48)]) ++ (X9 ++ tl))) rfl ?_
            refine q_aload_n F 0 dX8_readFrom_51 rfl ?_
            refine q_instNo F (List.mem_append_right _ (List.mem_append_left _ (List.mem_of_getElem? (i := 0) rfl))) rfl hcl47 (by decide) dX8_readFrom_52 ?_
            refine q_toi (nI 0) rfl ?_
            refine q_if_eq F (tgt := 70) dX8_readFrom_55 (by decide) (fun h_55 => ?_) (fun h_55 => ?_)
            · skip
              refine q_iinc F 3 (v := nI (i + 1)) (lv' := [(2, .int (nI (i + 1))), (3, .ref b_1), (0, .ref (t 0)), (1, .ref (q 0))]) dX8_readFrom_70 rfl (nI_1 _) (by decide) rfl ?_
              refine q_goto F (tgt := 20) dX8_readFrom_73 (by decide) ?_
              refine q_widen (k' := i + 1) (n' := 3 * (i + 1)) (by omega) (by omega) ?_
              refine q_at (pc' := 20) (st' := []) (ws' := tD E t (va_up (rdR T ((n + 1) / 5) ad9 i) i (some b_1)) (nI ((n + 1) / 5)) (mwK kf ((n + 1) / 5) i) ++ ((oV b_1 1 ([.int (f (5 * i + 1) - nI 48), .int (f (5 * i + 2) - nI 48), .int (f (5 * i + 3) - nI 48)]) ++ X9) ++ tl)) (k' := i + 1) (n' := 3 * (i + 1)) rfl rfl rfl rfl rfl ?_
              refine q_lv [2, 3, 0] (lv' := [(0, .ref (t 0)), (1, .ref (q 0)), (2, .int (nI (i + 1)))]) rfl ?_
              refine q_to (lv' := [(0, .ref (t 0)), (1, .ref (q 0)), (2, .int (nI (i + 1)))]) (st' := []) (ws' := tD E t (rdR T ((n + 1) / 5) (va_up ad9 i b_1) (i + 1)) (nI ((n + 1) / 5)) (mwK kf ((n + 1) / 5) (i + 1)) ++ ((oV b_1 1 ([.int (f (5 * i + 1) - nI 48), .int (f (5 * i + 2) - nI 48), .int (f (5 * i + 3) - nI 48)]) ++ X9) ++ tl)) rfl rfl (by rw [rdR_s (by omega), mwK, if_neg (fun z => absurd (ek.symm.trans z.2) (by decide))]) ?_
              exact ih_20 (i + 1) (va_up ad9 i b_1) (oV b_1 1 ([.int (f (5 * i + 1) - nI 48), .int (f (5 * i + 2) - nI 48), .int (f (5 * i + 3) - nI 48)]) ++ X9) (by omega) (isIn.r _ hP) (fun j hj hjn => by (by_cases e : j = i); (subst e; rw [va_up_self]; refine List.mem_append_left _ ?_; rw [ek]; exact List.mem_singleton.mpr rfl); (rw [va_up_ne _ _ e]; exact List.mem_append_right _ (hs9 j (by omega) hjn))) (by omega)
            · skip
              exact absurd h_55 (by decide)
          · skip
            refine q_at (pc' := 43) (st' := [.ref b_1]) (ws' := oV b_1 9 ([.int (f (5 * i + 1) - nI 48), .int (f (5 * i + 2) - nI 48), .int (f (5 * i + 3) - nI 48)]) ++ (tD E t (rdR T ((n + 1) / 5) ad9 i) (nI ((n + 1) / 5)) (mwK kf ((n + 1) / 5) i) ++ (X9 ++ tl))) (k' := i + 1) (n' := 3 * i + 3) rfl rfl (by rw [ek]; rfl) rfl rfl ?_
            refine q_astore_n F (lv' := [(3, .ref b_1), (0, .ref (t 0)), (1, .ref (q 0)), (2, .int (nI i))]) dX8_readFrom_43 (by decide) rfl ?_
            refine q_aload_n F 1 dX8_readFrom_44 rfl ?_
            refine q_get F (ci := 8) (j := 0) (v := .ref (t 1)) (List.mem_append_right _ (List.mem_append_left _ (List.mem_of_getElem? (i := 0) rfl))) rfl hi8 (by decide) hf11_8 rfl rfl dX8_readFrom_45 ?_
            refine q_iload_n F 3 dX8_readFrom_48 rfl ?_
            refine q_aload_n F 0 dX8_readFrom_49 rfl ?_
            refine q_perm pf1 ?_
            refine q_ast2O F 1 rfl i rfl (by omega) (by decide) (List.mem_append_right _ (List.mem_append_left _ (List.mem_of_getElem? (i := 0) rfl))) rfl (by decide) dX8_readFrom_50 (ws' := tD E t (va_up (rdR T ((n + 1) / 5) ad9 i) i (some b_1)) (nI ((n + 1) / 5)) (mwK kf ((n + 1) / 5) i) ++ (oV b_1 9 ([.int (f (5 * i + 1) - nI 48), .int (f (5 * i + 2) - nI 48), .int (f (5 * i + 3) - nI 48)]) ++ (X9 ++ tl))) rfl ?_
            refine q_aload_n F 0 dX8_readFrom_51 rfl ?_
            refine q_instNo F (List.mem_append_right _ (List.mem_append_left _ (List.mem_of_getElem? (i := 0) rfl))) rfl hcl47 (by decide) dX8_readFrom_52 ?_
            refine q_toi (nI 0) rfl ?_
            refine q_if_eq F (tgt := 70) dX8_readFrom_55 (by decide) (fun h_55 => ?_) (fun h_55 => ?_)
            · skip
              refine q_iinc F 3 (v := nI (i + 1)) (lv' := [(2, .int (nI (i + 1))), (3, .ref b_1), (0, .ref (t 0)), (1, .ref (q 0))]) dX8_readFrom_70 rfl (nI_1 _) (by decide) rfl ?_
              refine q_goto F (tgt := 20) dX8_readFrom_73 (by decide) ?_
              refine q_widen (k' := i + 1) (n' := 3 * (i + 1)) (by omega) (by omega) ?_
              refine q_at (pc' := 20) (st' := []) (ws' := tD E t (va_up (rdR T ((n + 1) / 5) ad9 i) i (some b_1)) (nI ((n + 1) / 5)) (mwK kf ((n + 1) / 5) i) ++ ((oV b_1 9 ([.int (f (5 * i + 1) - nI 48), .int (f (5 * i + 2) - nI 48), .int (f (5 * i + 3) - nI 48)]) ++ X9) ++ tl)) (k' := i + 1) (n' := 3 * (i + 1)) rfl rfl rfl rfl rfl ?_
              refine q_lv [2, 3, 0] (lv' := [(0, .ref (t 0)), (1, .ref (q 0)), (2, .int (nI (i + 1)))]) rfl ?_
              refine q_to (lv' := [(0, .ref (t 0)), (1, .ref (q 0)), (2, .int (nI (i + 1)))]) (st' := []) (ws' := tD E t (rdR T ((n + 1) / 5) (va_up ad9 i b_1) (i + 1)) (nI ((n + 1) / 5)) (mwK kf ((n + 1) / 5) (i + 1)) ++ ((oV b_1 9 ([.int (f (5 * i + 1) - nI 48), .int (f (5 * i + 2) - nI 48), .int (f (5 * i + 3) - nI 48)]) ++ X9) ++ tl)) rfl rfl (by rw [rdR_s (by omega), mwK, if_neg (fun z => absurd (ek.symm.trans z.2) (by decide))]) ?_
              exact ih_20 (i + 1) (va_up ad9 i b_1) (oV b_1 9 ([.int (f (5 * i + 1) - nI 48), .int (f (5 * i + 2) - nI 48), .int (f (5 * i + 3) - nI 48)]) ++ X9) (by omega) (isIn.r _ hP) (fun j hj hjn => by (by_cases e : j = i); (subst e; rw [va_up_self]; refine List.mem_append_left _ ?_; rw [ek]; exact List.mem_singleton.mpr rfl); (rw [va_up_ne _ _ e]; exact List.mem_append_right _ (hs9 j (by omega) hjn))) (by omega)
            · skip
              exact absurd h_55 (by decide)
          · skip
            refine q_at (pc' := 43) (st' := [.ref b_1]) (ws' := oV b_1 3 ([.int (f (5 * i + 1) - nI 48), .int (f (5 * i + 2) - nI 48), .int (f (5 * i + 3) - nI 48)]) ++ (tD E t (rdR T ((n + 1) / 5) ad9 i) (nI ((n + 1) / 5)) (mwK kf ((n + 1) / 5) i) ++ (X9 ++ tl))) (k' := i + 1) (n' := 3 * i + 3) rfl rfl (by rw [ek]; rfl) rfl rfl ?_
            refine q_astore_n F (lv' := [(3, .ref b_1), (0, .ref (t 0)), (1, .ref (q 0)), (2, .int (nI i))]) dX8_readFrom_43 (by decide) rfl ?_
            refine q_aload_n F 1 dX8_readFrom_44 rfl ?_
            refine q_get F (ci := 8) (j := 0) (v := .ref (t 1)) (List.mem_append_right _ (List.mem_append_left _ (List.mem_of_getElem? (i := 0) rfl))) rfl hi8 (by decide) hf11_8 rfl rfl dX8_readFrom_45 ?_
            refine q_iload_n F 3 dX8_readFrom_48 rfl ?_
            refine q_aload_n F 0 dX8_readFrom_49 rfl ?_
            refine q_perm pf1 ?_
            refine q_ast2O F 1 rfl i rfl (by omega) (by decide) (List.mem_append_right _ (List.mem_append_left _ (List.mem_of_getElem? (i := 0) rfl))) rfl (by decide) dX8_readFrom_50 (ws' := tD E t (va_up (rdR T ((n + 1) / 5) ad9 i) i (some b_1)) (nI ((n + 1) / 5)) (mwK kf ((n + 1) / 5) i) ++ (oV b_1 3 ([.int (f (5 * i + 1) - nI 48), .int (f (5 * i + 2) - nI 48), .int (f (5 * i + 3) - nI 48)]) ++ (X9 ++ tl))) rfl ?_
            refine q_aload_n F 0 dX8_readFrom_51 rfl ?_
            refine q_instNo F (List.mem_append_right _ (List.mem_append_left _ (List.mem_of_getElem? (i := 0) rfl))) rfl hcl47 (by decide) dX8_readFrom_52 ?_
            refine q_toi (nI 0) rfl ?_
            refine q_if_eq F (tgt := 70) dX8_readFrom_55 (by decide) (fun h_55 => ?_) (fun h_55 => ?_)
            · skip
              refine q_iinc F 3 (v := nI (i + 1)) (lv' := [(2, .int (nI (i + 1))), (3, .ref b_1), (0, .ref (t 0)), (1, .ref (q 0))]) dX8_readFrom_70 rfl (nI_1 _) (by decide) rfl ?_
              refine q_goto F (tgt := 20) dX8_readFrom_73 (by decide) ?_
              refine q_widen (k' := i + 1) (n' := 3 * (i + 1)) (by omega) (by omega) ?_
              refine q_at (pc' := 20) (st' := []) (ws' := tD E t (va_up (rdR T ((n + 1) / 5) ad9 i) i (some b_1)) (nI ((n + 1) / 5)) (mwK kf ((n + 1) / 5) i) ++ ((oV b_1 3 ([.int (f (5 * i + 1) - nI 48), .int (f (5 * i + 2) - nI 48), .int (f (5 * i + 3) - nI 48)]) ++ X9) ++ tl)) (k' := i + 1) (n' := 3 * (i + 1)) rfl rfl rfl rfl rfl ?_
              refine q_lv [2, 3, 0] (lv' := [(0, .ref (t 0)), (1, .ref (q 0)), (2, .int (nI (i + 1)))]) rfl ?_
              refine q_to (lv' := [(0, .ref (t 0)), (1, .ref (q 0)), (2, .int (nI (i + 1)))]) (st' := []) (ws' := tD E t (rdR T ((n + 1) / 5) (va_up ad9 i b_1) (i + 1)) (nI ((n + 1) / 5)) (mwK kf ((n + 1) / 5) (i + 1)) ++ ((oV b_1 3 ([.int (f (5 * i + 1) - nI 48), .int (f (5 * i + 2) - nI 48), .int (f (5 * i + 3) - nI 48)]) ++ X9) ++ tl)) rfl rfl (by rw [rdR_s (by omega), mwK, if_neg (fun z => absurd (ek.symm.trans z.2) (by decide))]) ?_
              exact ih_20 (i + 1) (va_up ad9 i b_1) (oV b_1 3 ([.int (f (5 * i + 1) - nI 48), .int (f (5 * i + 2) - nI 48), .int (f (5 * i + 3) - nI 48)]) ++ X9) (by omega) (isIn.r _ hP) (fun j hj hjn => by (by_cases e : j = i); (subst e; rw [va_up_self]; refine List.mem_append_left _ ?_; rw [ek]; exact List.mem_singleton.mpr rfl); (rw [va_up_ne _ _ e]; exact List.mem_append_right _ (hs9 j (by omega) hjn))) (by omega)
            · skip
              exact absurd h_55 (by decide)
  refine q_lv [1, 2, 0] (lv' := [(0, .ref (t 0)), (1, .ref (q 0)), (2, .int (nI 0))]) rfl ?_
  refine q_to (lv' := [(0, .ref (t 0)), (1, .ref (q 0)), (2, .int (nI 0))]) (st' := []) (ws' := tD E t (rdR T ((n + 1) / 5) (fun _ => 0) 0) (nI ((n + 1) / 5)) (mwK kf ((n + 1) / 5) 0) ++ (([]) ++ tl)) rfl rfl (by rw [rdR_0]; rfl) ?_
  exact lb20 (6 - 0 + 1) 0 (fun _ => 0) ([]) (by omega) (hP) (fun j hj => absurd hj (Nat.not_lt_zero j)) (Nat.lt_succ_self _)
