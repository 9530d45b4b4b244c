/-! the object's public methods -/
theorem c_X6_write_f (l : Launch) (E : gEnv) (q : Nat → Nat) (n : Nat) (f : Nat → Int32) (tl : va_W) (hn : n ≤ 30) (h30 : n = 30) (x : Int32) : Cn l E yX6_write wsX6_write (rmL 0 0 0) [.ref (q 0), .int x] (pC E q n f ++ tl) 0 0 (fun v w => v = some (.int (nI 0)) ∧ w = pC E q n f ++ tl) := Cn.mono (c_X6_write l E q n f tl hn x) fun v w h => by
  rcases h with ⟨_, h1, h2⟩ | ⟨h0, _⟩
  · exact ⟨h1, h2⟩
  · omega
theorem c_X6_write_t (l : Launch) (E : gEnv) (q : Nat → Nat) (n : Nat) (f : Nat → Int32) (tl : va_W) (hn : n ≤ 30) (h30 : n < 30) (x : Int32) : Cn l E yX6_write wsX6_write (rmL 0 0 0) [.ref (q 0), .int x] (pC E q n f ++ tl) 0 0 (fun v w => v = some (.int (nI 1)) ∧ w = pC E q (n + 1) (upd f n x) ++ tl) := Cn.mono (c_X6_write l E q n f tl hn x) fun v w h => by
  rcases h with ⟨h0, _⟩ | ⟨_, h1, h2⟩
  · omega
  · exact ⟨h1, h2⟩
def kfP (pf : Nat → Int32) (i : Nat) : Nat := (kbF (pf (5 * i))).toNatClampNeg
theorem ftF_all {g : Nat → Int32} {n : Nat} : ∀ {m k : Nat}, ftF g n m k = n → n ≤ k + m → ∀ j, k ≤ j → j < n → gdF j (g j) = true
  | 0, k, h, hm, j, h1, h2 => by rw [ftF] at h; omega
  | m + 1, k, h, hm, j, h1, h2 => by
    rw [ftF] at h
    by_cases c : k < n ∧ gdF k (g k) = true
    · rw [if_pos c] at h
      rcases Nat.lt_or_ge k j with q | q
      · exact ftF_all h (by omega) j (by omega) h2
      · rw [show j = k by omega]; exact c.2
    · rw [if_neg c] at h
      omega
theorem kbF_lt (x : Int32) (h : ¬ kbF x = (-1)) : (kbF x).toNatClampNeg < 5 ∧ kbF x = nI (kbF x).toNatClampNeg := by
  unfold kbF at h ⊢
  by_cases h0 : x = nI 104
  · rw [if_pos h0]; decide
  · rw [if_neg h0] at h ⊢
    by_cases h1 : x = nI 109
    · rw [if_pos h1]; decide
    · rw [if_neg h1] at h ⊢
      by_cases h2 : x = nI 105
      · rw [if_pos h2]; decide
      · rw [if_neg h2] at h ⊢
        by_cases h3 : x = nI 119
        · rw [if_pos h3]; decide
        · rw [if_neg h3] at h ⊢
          by_cases h4 : x = nI 108
          · rw [if_pos h4]; decide
          · rw [if_neg h4] at h; exact absurd rfl h
theorem kfP_ok {pf : Nat → Int32} {n : Nat} (hn : n ≤ 30) (h : ftF pf n 31 0 = n) : ∀ i, 5 * i + 3 < n → kfP pf i < 5 ∧ kbF (pf (5 * i)) = nI (kfP pf i) := fun i hi => by
  have e := ftF_all h (by omega) (5 * i) (by omega) (by omega)
  rw [gdF_0 (by omega)] at e
  exact kbF_lt _ (by simpa using e)
theorem isHs_l {T : gTown} {X tl : va_W} (h : isHs T X) : isHs T (X ++ tl) := fun i hi => ⟨(h i hi).1, List.mem_append_left _ (h i hi).2⟩
theorem lt10 {y : Int32} (h : y < nI 10) : ¬ nI 9 < y := by
  intro z
  rw [Int32.lt_iff_toInt_lt, nI_toInt (by decide)] at z h
  omega
theorem ge10 {y : Int32} (h : ¬ y < nI 10) : nI 9 < y := by
  have h2 := Int32.not_lt.mp h
  rw [Int32.lt_iff_toInt_lt, nI_toInt (by decide)]
  rw [Int32.le_iff_toInt_le, nI_toInt (by decide)] at h2
  omega
theorem lt16 {y : Int32} (h1 : ¬ y < nI 10) (h2 : ¬ nI 16 ≤ y) : ∃ i, i < 6 ∧ y = nI (10 + i) := by
  have e : inI y (nI 10) (nI 15) = true := inI_t h1 (fun z => h2 (by
    rw [Int32.lt_iff_toInt_lt, nI_toInt (by decide)] at z
    rw [Int32.le_iff_toInt_le, nI_toInt (by decide)]
    omega))
  obtain ⟨j, h3, h4, h5⟩ := inI_nat (by decide) (by decide) e
  exact ⟨j - 10, by omega, by rw [h5]; congr 1; omega⟩
theorem ge16 {y : Int32} (h2 : nI 16 ≤ y) : nI 15 < y := by
  rw [Int32.le_iff_toInt_le, nI_toInt (by decide)] at h2
  rw [Int32.lt_iff_toInt_lt, nI_toInt (by decide)]
  omega
theorem no01 {y : Int32} (h0 : ¬ y = 0) (h1 : ¬ y = nI 1) : inI y (nI 0) (nI 1) = false := by
  cases e : inI y (nI 0) (nI 1) with
  | false => rfl
  | true =>
    obtain ⟨j, h3, h4, h5⟩ := inI_nat (by decide) (by decide) e
    rcases (show j = 0 ∨ j = 1 by omega) with rfl | rfl
    · exact absurd h5 h0
    · exact absurd h5 h1
set_option maxHeartbeats 2000000 in
set_option maxRecDepth 100000 in
theorem c_X10_letter (l : Launch) (E : gEnv) (x : Nat) (q t a k u r kd : Nat → Nat) (T : gTown) (g : Nat → Int32) (n : Nat) (pf : Nat → Int32) (sn : Int32) (B : Nat → Nat → Int32) (kp km ku : Int32) (sn1 : Int32) (B1 : Nat → Nat → Int32) (kp1 km1 ku1 : Int32) (sn2 : Int32) (B2 : Nat → Nat → Int32) (kp2 km2 ku2 : Int32) (rg O BO P M U : Nat → Int32) (tl : va_W) (hH : isHs T tl) (hn : tN T ≤ 6) (hq : n ≤ 30) (x1 : Int32) : Cn l E yX10_letter wsX10_letter (rmL 1 0 0) [.ref x, .int x1] (oC x (q 0) (t 0) (a 0) (k 0) (u 0) (r 0) g ++ (pC E q n pf ++ (tC E t T ++ (nC E a (t 0) sn B ++ (kC (a 1) kp km ku ++ (nC E k (t 0) sn1 B1 ++ (kC (k 1) kp1 km1 ku1 ++ (nC E u (t 0) sn2 B2 ++ (kC (u 1) kp2 km2 ku2 ++ (rC E r (t 0) kd rg O BO ++ (ksC kd P M U ++ tl))))))))))) 0 0 (fun v w => ∃ (y : Int32) (S' : gSt), v = some (.int y) ∧ w = xW E (x, q, t, a, k, u, r, kd) S' tl ∧ ((inI x1 (nI 1) (nI 126) = false ∧ y = (-102) ∧ S' = ((T, n, pf, g, (sn, B, kp, km, ku), (sn1, B1, kp1, km1, ku1), (sn2, B2, kp2, km2, ku2), (rg, O, BO, P, M, U)) : gSt)) ∨ (inI x1 (nI 1) (nI 126) = true ∧ n = 30 ∧ y = (-104) ∧ S' = ((T, n, pf, g, (sn, B, kp, km, ku), (sn1, B1, kp1, km1, ku1), (sn2, B2, kp2, km2, ku2), (rg, O, BO, P, M, U)) : gSt)) ∨ (inI x1 (nI 1) (nI 126) = true ∧ n < 30 ∧ y = nI (n + 1) ∧ S' = ((T, n + 1, upd pf n x1, g, (sn, B, kp, km, ku), (sn1, B1, kp1, km1, ku1), (sn2, B2, kp2, km2, ku2), (rg, O, BO, P, M, U)) : gSt)))) := by
  refine Cn.of (own := RX10) (cc := cX10_letter) (maxL := 2) (ret := (some .int)) (lv := [(0, .ref x), (1, .int x1)]) (by decide) rfl rfl (Nat.le_of_ble_eq_true rfl) rfl ?_
  intro p_ e_ s_ m_ args_ below_ meth_ c_ A_ P_ hp_ F hr_ hnm_
  have hf12_10 : Cond.fieldLink RX10 12 "KeyOnStreet" (TX10 0).2.1 (TX10 0).2.2.1 ∈ wsX10_letter := by decide +kernel
  have hi10 : ∀ w ∈ u_ws RX10 TX10 11, w ∈ wsX10_letter := by decide +kernel
  have hd_X6_write : yX6_write.cls = RX6 ∧ yX6_write.cls ≠ "java/lang/invoke/MethodHandle" ∧ yX6_write.cls ≠ "java/lang/invoke/VarHandle" ∧ (parseMethodDescriptor yX6_write.desc).map (fun d => d.parameters.length) = some 1 := by decide +kernel
  have hf51_6 : Cond.fieldLink RX10 51 "KeyOnStreet$Page" (TX6 1).2.1 (TX6 1).2.2.1 ∈ wsX10_letter := by decide +kernel
  have hi6 : ∀ w ∈ u_ws RX6 TX6 2, w ∈ wsX10_letter := by decide +kernel
  refine q_iload_n F 1 dX10_letter_0 rfl ?_
  refine q_iconst F dX10_letter_1 (v := nI 1) (by decide) ?_
  refine q_icmp_lt F (tgt := 11) dX10_letter_2 (by decide) (fun h_2 => ?_) (fun h_2 => ?_)
  · skip
    have hz_2 := Int32.not_le.mpr h_2
    refine q_bipush F dX10_letter_11 (v := (-102)) (by decide) ?_
    refine q_perm pf10 ?_
    refine q_perm pf10 ?_
    refine q_perm pf10 ?_
    refine q_perm pf10 ?_
    refine q_perm pf10 ?_
    refine q_perm pf10 ?_
    refine q_perm pf10 ?_
    refine q_perm pf10 ?_
    refine q_perm pf10 ?_
    refine q_perm pf10 ?_
    refine q_perm pf10 ?_
    exact q_iret F hr_ dX10_letter_13 (hp_ _ _ ⟨(-102), ((T, n, pf, g, (sn, B, kp, km, ku), (sn1, B1, kp1, km1, ku1), (sn2, B2, kp2, km2, ku2), (rg, O, BO, P, M, U)) : gSt), rfl, rfl, Or.inl (⟨inI_lo h_2, rfl, rfl⟩)⟩)
  · skip
    have hz_2 := Int32.not_lt.mp h_2
    refine q_iload_n F 1 dX10_letter_5 rfl ?_
    refine q_bipush F dX10_letter_6 (v := nI 126) (by decide) ?_
    refine q_icmp_le F (tgt := 14) dX10_letter_8 (by decide) (fun h_8 => ?_) (fun h_8 => ?_)
    · skip
      have hz_8 := Int32.not_lt.mpr h_8
      refine q_aload_n F 0 dX10_letter_14 rfl ?_
      refine q_get F (ci := 10) (j := 0) (v := .ref (q 0)) (List.mem_append_left _ (List.mem_of_getElem? (i := 0) rfl)) rfl hi10 (by decide) hf12_10 rfl rfl dX10_letter_15 ?_
      refine q_iload_n F 1 dX10_letter_18 rfl ?_
      rcases (show n < 30 ∨ n = 30 by omega) with hw30 | hw30
      · skip
        refine q_perm pf1 ?_
        refine q_callV F (ci := 6) (As := [.int x1]) (rest := []) (List.mem_append_left _ (List.mem_of_getElem? (i := 0) rfl)) rfl (c_X6_write_t l E q n pf (oC x (q 0) (t 0) (a 0) (k 0) (u 0) (r 0) g ++ (tC E t T ++ (nC E a (t 0) sn B ++ (kC (a 1) kp km ku ++ (nC E k (t 0) sn1 B1 ++ (kC (k 1) kp1 km1 ku1 ++ (nC E u (t 0) sn2 B2 ++ (kC (u 1) kp2 km2 ku2 ++ (rC E r (t 0) kd rg O BO ++ (ksC kd P M U ++ tl)))))))))) hq hw30 x1) (List.Perm.refl _) gX10_letter_X6_write rfl rfl rfl hd_X6_write ⟨by decide, by decide⟩ rfl (Nat.le_of_ble_eq_true rfl) dX10_letter_19 ⟨Nat.le_of_ble_eq_true rfl, Nat.le_of_ble_eq_true rfl⟩ (fun v_ w_ hvw => ?_)
        rw [hvw.1, hvw.2]
        clear hvw
        refine q_at (pc' := 22) (st' := [.int (nI 1)]) (ws' := pC E q (n + 1) (upd pf n x1) ++ (oC x (q 0) (t 0) (a 0) (k 0) (u 0) (r 0) g ++ (tC E t T ++ (nC E a (t 0) sn B ++ (kC (a 1) kp km ku ++ (nC E k (t 0) sn1 B1 ++ (kC (k 1) kp1 km1 ku1 ++ (nC E u (t 0) sn2 B2 ++ (kC (u 1) kp2 km2 ku2 ++ (rC E r (t 0) kd rg O BO ++ (ksC kd P M U ++ tl))))))))))) (k' := 0) (n' := 0) rfl rfl rfl rfl rfl ?_
        refine q_if_eq F (tgt := 35) dX10_letter_22 (by decide) (fun h_22 => ?_) (fun h_22 => ?_)
        · skip
          exact absurd h_22 (by decide)
        · skip
          refine q_aload_n F 0 dX10_letter_25 rfl ?_
          refine q_get F (ci := 10) (j := 0) (v := .ref (q 0)) (List.mem_append_right _ (List.mem_append_left _ (List.mem_of_getElem? (i := 0) rfl))) rfl hi10 (by decide) hf12_10 rfl rfl dX10_letter_26 ?_
          refine q_get F (ci := 6) (j := 1) (v := .int (nI (n + 1))) (List.mem_append_left _ (List.mem_of_getElem? (i := 0) rfl)) rfl hi6 (by decide) hf51_6 rfl rfl dX10_letter_29 ?_
          refine q_goto F (tgt := 37) dX10_letter_32 (by decide) ?_
          refine q_perm pf10 ?_
          refine q_perm pf10 ?_
          refine q_perm pf10 ?_
          refine q_perm pf10 ?_
          refine q_perm pf10 ?_
          refine q_perm pf10 ?_
          refine q_perm pf10 ?_
          refine q_perm pf10 ?_
          refine q_perm pf10 ?_
          refine q_perm pf9 ?_
          refine q_perm pf10 ?_
          exact q_iret F hr_ dX10_letter_37 (hp_ _ _ ⟨nI (n + 1), ((T, n + 1, upd pf n x1, g, (sn, B, kp, km, ku), (sn1, B1, kp1, km1, ku1), (sn2, B2, kp2, km2, ku2), (rg, O, BO, P, M, U)) : gSt), rfl, rfl, Or.inr (Or.inr (⟨inI_t h_2 hz_8, hw30, rfl, rfl⟩))⟩)
      · skip
        refine q_perm pf1 ?_
        refine q_callV F (ci := 6) (As := [.int x1]) (rest := []) (List.mem_append_left _ (List.mem_of_getElem? (i := 0) rfl)) rfl (c_X6_write_f l E q n pf (oC x (q 0) (t 0) (a 0) (k 0) (u 0) (r 0) g ++ (tC E t T ++ (nC E a (t 0) sn B ++ (kC (a 1) kp km ku ++ (nC E k (t 0) sn1 B1 ++ (kC (k 1) kp1 km1 ku1 ++ (nC E u (t 0) sn2 B2 ++ (kC (u 1) kp2 km2 ku2 ++ (rC E r (t 0) kd rg O BO ++ (ksC kd P M U ++ tl)))))))))) hq hw30 x1) (List.Perm.refl _) gX10_letter_X6_write rfl rfl rfl hd_X6_write ⟨by decide, by decide⟩ rfl (Nat.le_of_ble_eq_true rfl) dX10_letter_19 ⟨Nat.le_of_ble_eq_true rfl, Nat.le_of_ble_eq_true rfl⟩ (fun v_ w_ hvw => ?_)
        rw [hvw.1, hvw.2]
        clear hvw
        refine q_at (pc' := 22) (st' := [.int (nI 0)]) (ws' := pC E q n pf ++ (oC x (q 0) (t 0) (a 0) (k 0) (u 0) (r 0) g ++ (tC E t T ++ (nC E a (t 0) sn B ++ (kC (a 1) kp km ku ++ (nC E k (t 0) sn1 B1 ++ (kC (k 1) kp1 km1 ku1 ++ (nC E u (t 0) sn2 B2 ++ (kC (u 1) kp2 km2 ku2 ++ (rC E r (t 0) kd rg O BO ++ (ksC kd P M U ++ tl))))))))))) (k' := 0) (n' := 0) rfl rfl rfl rfl rfl ?_
        refine q_if_eq F (tgt := 35) dX10_letter_22 (by decide) (fun h_22 => ?_) (fun h_22 => ?_)
        · skip
          refine q_bipush F dX10_letter_35 (v := (-104)) (by decide) ?_
          refine q_perm pf10 ?_
          refine q_perm pf10 ?_
          refine q_perm pf10 ?_
          refine q_perm pf10 ?_
          refine q_perm pf10 ?_
          refine q_perm pf10 ?_
          refine q_perm pf10 ?_
          refine q_perm pf10 ?_
          refine q_perm pf10 ?_
          refine q_perm pf9 ?_
          refine q_perm pf10 ?_
          exact q_iret F hr_ dX10_letter_37 (hp_ _ _ ⟨(-104), ((T, n, pf, g, (sn, B, kp, km, ku), (sn1, B1, kp1, km1, ku1), (sn2, B2, kp2, km2, ku2), (rg, O, BO, P, M, U)) : gSt), rfl, rfl, Or.inr (Or.inl (⟨inI_t h_2 hz_8, hw30, rfl, rfl⟩))⟩)
        · skip
          exact absurd h_22 (by decide)
    · skip
      have hz_8 := Int32.not_le.mp h_8
      refine q_bipush F dX10_letter_11 (v := (-102)) (by decide) ?_
      refine q_perm pf10 ?_
      refine q_perm pf10 ?_
      refine q_perm pf10 ?_
      refine q_perm pf10 ?_
      refine q_perm pf10 ?_
      refine q_perm pf10 ?_
      refine q_perm pf10 ?_
      refine q_perm pf10 ?_
      refine q_perm pf10 ?_
      refine q_perm pf10 ?_
      refine q_perm pf10 ?_
      exact q_iret F hr_ dX10_letter_13 (hp_ _ _ ⟨(-102), ((T, n, pf, g, (sn, B, kp, km, ku), (sn1, B1, kp1, km1, ku1), (sn2, B2, kp2, km2, ku2), (rg, O, BO, P, M, U)) : gSt), rfl, rfl, Or.inl (⟨inI_hi hz_8, rfl, rfl⟩)⟩)

set_option maxHeartbeats 2000000 in
set_option maxRecDepth 100000 in
theorem c_X10_blank (l : Launch) (E : gEnv) (x : Nat) (q t a k u r kd : Nat → Nat) (T : gTown) (g : Nat → Int32) (n : Nat) (pf : Nat → Int32) (sn : Int32) (B : Nat → Nat → Int32) (kp km ku : Int32) (sn1 : Int32) (B1 : Nat → Nat → Int32) (kp1 km1 ku1 : Int32) (sn2 : Int32) (B2 : Nat → Nat → Int32) (kp2 km2 ku2 : Int32) (rg O BO P M U : Nat → Int32) (tl : va_W) (hH : isHs T tl) (hn : tN T ≤ 6) (hq : n ≤ 30) : Cn l E yX10_blank wsX10_blank (rmL 0 0 0) [.ref x] (oC x (q 0) (t 0) (a 0) (k 0) (u 0) (r 0) g ++ (pC E q n pf ++ (tC E t T ++ (nC E a (t 0) sn B ++ (kC (a 1) kp km ku ++ (nC E k (t 0) sn1 B1 ++ (kC (k 1) kp1 km1 ku1 ++ (nC E u (t 0) sn2 B2 ++ (kC (u 1) kp2 km2 ku2 ++ (rC E r (t 0) kd rg O BO ++ (ksC kd P M U ++ tl))))))))))) 0 0 (fun v w => ∃ (y : Int32) (S' : gSt), v = some (.int y) ∧ w = xW E (x, q, t, a, k, u, r, kd) S' tl ∧ ((y = nI n ∧ S' = ((T, 0, pf, g, (sn, B, kp, km, ku), (sn1, B1, kp1, km1, ku1), (sn2, B2, kp2, km2, ku2), (rg, O, BO, P, M, U)) : gSt)))) := by
  refine Cn.of (own := RX10) (cc := cX10_blank) (maxL := 2) (ret := (some .int)) (lv := [(0, .ref x)]) (by decide) rfl rfl (Nat.le_of_ble_eq_true rfl) rfl ?_
  intro p_ e_ s_ m_ args_ below_ meth_ c_ A_ P_ hp_ F hr_ hnm_
  have hf12_10 : Cond.fieldLink RX10 12 "KeyOnStreet" (TX10 0).2.1 (TX10 0).2.2.1 ∈ wsX10_blank := by decide +kernel
  have hi10 : ∀ w ∈ u_ws RX10 TX10 11, w ∈ wsX10_blank := by decide +kernel
  have hf51_6 : Cond.fieldLink RX10 51 "KeyOnStreet$Page" (TX6 1).2.1 (TX6 1).2.2.1 ∈ wsX10_blank := by decide +kernel
  have hi6 : ∀ w ∈ u_ws RX6 TX6 2, w ∈ wsX10_blank := by decide +kernel
  refine q_aload_n F 0 dX10_blank_0 rfl ?_
  refine q_get F (ci := 10) (j := 0) (v := .ref (q 0)) (List.mem_append_left _ (List.mem_of_getElem? (i := 0) rfl)) rfl hi10 (by decide) hf12_10 rfl rfl dX10_blank_1 ?_
  refine q_get F (ci := 6) (j := 1) (v := .int (nI n)) (List.mem_append_right _ (List.mem_append_left _ (List.mem_of_getElem? (i := 0) rfl))) rfl hi6 (by decide) hf51_6 rfl rfl dX10_blank_4 ?_
  refine q_istore_n F (lv' := [(1, .int (nI n)), (0, .ref x)]) dX10_blank_7 (by decide) rfl ?_
  refine q_aload_n F 1 dX10_blank_8 rfl ?_
  refine q_get F (ci := 10) (j := 0) (v := .ref (q 0)) (List.mem_append_left _ (List.mem_of_getElem? (i := 0) rfl)) rfl hi10 (by decide) hf12_10 rfl rfl dX10_blank_9 ?_
  refine q_iconst F dX10_blank_12 (v := nI 0) (by decide) ?_
  refine q_perm pf1 ?_
  refine q_put F (j := 1) 0 rfl rfl hi6 tyX6 tyX6_ok nmX6 (by decide) hf51_6 rfl rfl rfl rfl (Nat.le_of_ble_eq_true rfl) dX10_blank_13 (ws' := pC E q 0 pf ++ (oC x (q 0) (t 0) (a 0) (k 0) (u 0) (r 0) g ++ (tC E t T ++ (nC E a (t 0) sn B ++ (kC (a 1) kp km ku ++ (nC E k (t 0) sn1 B1 ++ (kC (k 1) kp1 km1 ku1 ++ (nC E u (t 0) sn2 B2 ++ (kC (u 1) kp2 km2 ku2 ++ (rC E r (t 0) kd rg O BO ++ (ksC kd P M U ++ tl))))))))))) rfl ?_
  refine q_iload_n F 0 dX10_blank_16 rfl ?_
  refine q_perm pf10 ?_
  refine q_perm pf10 ?_
  refine q_perm pf10 ?_
  refine q_perm pf10 ?_
  refine q_perm pf10 ?_
  refine q_perm pf10 ?_
  refine q_perm pf10 ?_
  refine q_perm pf10 ?_
  refine q_perm pf10 ?_
  refine q_perm pf9 ?_
  refine q_perm pf10 ?_
  exact q_iret F hr_ dX10_blank_17 (hp_ _ _ ⟨nI n, ((T, 0, pf, g, (sn, B, kp, km, ku), (sn1, B1, kp1, km1, ku1), (sn2, B2, kp2, km2, ku2), (rg, O, BO, P, M, U)) : gSt), rfl, rfl, ⟨rfl, rfl⟩⟩)

set_option maxHeartbeats 2000000 in
set_option maxRecDepth 100000 in
theorem c_X10_fault (l : Launch) (E : gEnv) (x : Nat) (q t a k u r kd : Nat → Nat) (T : gTown) (g : Nat → Int32) (n : Nat) (pf : Nat → Int32) (sn : Int32) (B : Nat → Nat → Int32) (kp km ku : Int32) (sn1 : Int32) (B1 : Nat → Nat → Int32) (kp1 km1 ku1 : Int32) (sn2 : Int32) (B2 : Nat → Nat → Int32) (kp2 km2 ku2 : Int32) (rg O BO P M U : Nat → Int32) (tl : va_W) (hH : isHs T tl) (hn : tN T ≤ 6) (hq : n ≤ 30) (hc : ∀ i, i < n → ∃ c, c < 127 ∧ pf i = nI c) : Cn l E yX10_fault wsX10_fault (rmL 6 0 0) [.ref x] (oC x (q 0) (t 0) (a 0) (k 0) (u 0) (r 0) g ++ (pC E q n pf ++ (tC E t T ++ (nC E a (t 0) sn B ++ (kC (a 1) kp km ku ++ (nC E k (t 0) sn1 B1 ++ (kC (k 1) kp1 km1 ku1 ++ (nC E u (t 0) sn2 B2 ++ (kC (u 1) kp2 km2 ku2 ++ (rC E r (t 0) kd rg O BO ++ (ksC kd P M U ++ tl))))))))))) 0 0 (fun v w => ∃ (y : Int32) (S' : gSt), v = some (.int y) ∧ w = xW E (x, q, t, a, k, u, r, kd) S' tl ∧ ((y = nI (ftF pf n 31 0) ∧ S' = ((T, n, pf, g, (sn, B, kp, km, ku), (sn1, B1, kp1, km1, ku1), (sn2, B2, kp2, km2, ku2), (rg, O, BO, P, M, U)) : gSt)))) := by
  refine Cn.of (own := RX10) (cc := cX10_fault) (maxL := 1) (ret := (some .int)) (lv := [(0, .ref x)]) (by decide) rfl rfl (Nat.le_of_ble_eq_true rfl) rfl ?_
  intro p_ e_ s_ m_ args_ below_ meth_ c_ A_ P_ hp_ F hr_ hnm_
  have hf12_10 : Cond.fieldLink RX10 12 "KeyOnStreet" (TX10 0).2.1 (TX10 0).2.2.1 ∈ wsX10_fault := by decide +kernel
  have hi10 : ∀ w ∈ u_ws RX10 TX10 11, w ∈ wsX10_fault := by decide +kernel
  have hd_X6_firstFault : yX6_firstFault.cls = RX6 ∧ yX6_firstFault.cls ≠ "java/lang/invoke/MethodHandle" ∧ yX6_firstFault.cls ≠ "java/lang/invoke/VarHandle" ∧ (parseMethodDescriptor yX6_firstFault.desc).map (fun d => d.parameters.length) = some 0 := by decide +kernel
  refine q_aload_n F 0 dX10_fault_0 rfl ?_
  refine q_get F (ci := 10) (j := 0) (v := .ref (q 0)) (List.mem_append_left _ (List.mem_of_getElem? (i := 0) rfl)) rfl hi10 (by decide) hf12_10 rfl rfl dX10_fault_1 ?_
  refine q_callV F (ci := 6) (As := []) (rest := []) (List.mem_append_right _ (List.mem_append_left _ (List.mem_of_getElem? (i := 0) rfl))) rfl (c_X6_firstFault l E q n pf (oC x (q 0) (t 0) (a 0) (k 0) (u 0) (r 0) g ++ (pC E q n pf ++ (tC E t T ++ (nC E a (t 0) sn B ++ (kC (a 1) kp km ku ++ (nC E k (t 0) sn1 B1 ++ (kC (k 1) kp1 km1 ku1 ++ (nC E u (t 0) sn2 B2 ++ (kC (u 1) kp2 km2 ku2 ++ (rC E r (t 0) kd rg O BO ++ (ksC kd P M U ++ tl))))))))))) (isIn.r _ (isIn.l _ _)) hq hc) (List.Perm.refl _) gX10_fault_X6_firstFault rfl rfl rfl hd_X6_firstFault ⟨by decide, by decide⟩ rfl (Nat.le_of_ble_eq_true rfl) dX10_fault_4 ⟨Nat.le_of_ble_eq_true rfl, Nat.le_of_ble_eq_true rfl⟩ (fun v_ w_ hvw => ?_)
  rw [hvw.1, hvw.2]
  clear hvw
  refine q_at (pc' := 7) (st' := [.int (nI (ftF pf n 31 0))]) (ws' := oC x (q 0) (t 0) (a 0) (k 0) (u 0) (r 0) g ++ (pC E q n pf ++ (tC E t T ++ (nC E a (t 0) sn B ++ (kC (a 1) kp km ku ++ (nC E k (t 0) sn1 B1 ++ (kC (k 1) kp1 km1 ku1 ++ (nC E u (t 0) sn2 B2 ++ (kC (u 1) kp2 km2 ku2 ++ (rC E r (t 0) kd rg O BO ++ (ksC kd P M U ++ tl))))))))))) (k' := 0) (n' := 0) rfl rfl rfl rfl rfl ?_
  refine q_perm pf10 ?_
  refine q_perm pf10 ?_
  refine q_perm pf10 ?_
  refine q_perm pf10 ?_
  refine q_perm pf10 ?_
  refine q_perm pf10 ?_
  refine q_perm pf10 ?_
  refine q_perm pf10 ?_
  refine q_perm pf10 ?_
  refine q_perm pf10 ?_
  refine q_perm pf10 ?_
  exact q_iret F hr_ dX10_fault_7 (hp_ _ _ ⟨nI (ftF pf n 31 0), ((T, n, pf, g, (sn, B, kp, km, ku), (sn1, B1, kp1, km1, ku1), (sn2, B2, kp2, km2, ku2), (rg, O, BO, P, M, U)) : gSt), rfl, rfl, ⟨rfl, rfl⟩⟩)

set_option maxHeartbeats 2000000 in
set_option maxRecDepth 100000 in
theorem c_X10_town (l : Launch) (E : gEnv) (x : Nat) (q t a k u r kd : Nat → Nat) (T : gTown) (g : Nat → Int32) (n : Nat) (pf : Nat → Int32) (sn : Int32) (B : Nat → Nat → Int32) (kp km ku : Int32) (sn1 : Int32) (B1 : Nat → Nat → Int32) (kp1 km1 ku1 : Int32) (sn2 : Int32) (B2 : Nat → Nat → Int32) (kp2 km2 ku2 : Int32) (rg O BO P M U : Nat → Int32) (tl : va_W) (hH : isHs T tl) (hn : tN T ≤ 6) (hq : n ≤ 30) (hc : ∀ i, i < n → ∃ c, c < 127 ∧ pf i = nI c) : Cn l E yX10_town wsX10_town (rmL 7 6 18) [.ref x] (oC x (q 0) (t 0) (a 0) (k 0) (u 0) (r 0) g ++ (pC E q n pf ++ (tC E t T ++ (nC E a (t 0) sn B ++ (kC (a 1) kp km ku ++ (nC E k (t 0) sn1 B1 ++ (kC (k 1) kp1 km1 ku1 ++ (nC E u (t 0) sn2 B2 ++ (kC (u 1) kp2 km2 ku2 ++ (rC E r (t 0) kd rg O BO ++ (ksC kd P M U ++ tl))))))))))) 6 18 (fun v w => ∃ (y : Int32) (S' : gSt) (X : va_W), v = some (.int y) ∧ w = xW E (x, q, t, a, k, u, r, kd) S' (X ++ tl) ∧ ((¬ (n % 5 = 4 ∧ 14 ≤ n ∧ ftF pf n 31 0 = n) ∧ y = (-103) ∧ S' = ((T, n, pf, g, (sn, B, kp, km, ku), (sn1, B1, kp1, km1, ku1), (sn2, B2, kp2, km2, ku2), (rg, O, BO, P, M, U)) : gSt) ∧ X = []) ∨ ((n % 5 = 4 ∧ 14 ≤ n ∧ ftF pf n 31 0 = n) ∧ ∃ ad : Nat → Nat, y = nI ((n + 1) / 5) ∧ S' = (((twT pf (kfP pf) ((n + 1) / 5) ad), 0, pf, upd (upd g 6 (nI 0)) 7 (g 7 + nI 1), (nI 0, bgB B, nI 0, nI 0, nI 0), (sn1, B1, kp1, km1, ku1), (sn2, B2, kp2, km2, ku2), (rg, O, BO, P, M, U)) : gSt) ∧ isHs (twT pf (kfP pf) ((n + 1) / 5) ad) X))) := by
  refine Cn.of (own := RX10) (cc := cX10_town) (maxL := 1) (ret := (some .int)) (lv := [(0, .ref x)]) (by decide) rfl rfl (Nat.le_of_ble_eq_true rfl) rfl ?_
  intro p_ e_ s_ m_ args_ below_ meth_ c_ A_ P_ hp_ F hr_ hnm_
  have hf12_10 : Cond.fieldLink RX10 12 "KeyOnStreet" (TX10 0).2.1 (TX10 0).2.2.1 ∈ wsX10_town := by decide +kernel
  have hi10 : ∀ w ∈ u_ws RX10 TX10 11, w ∈ wsX10_town := by decide +kernel
  have hd_X6_tellsTown : yX6_tellsTown.cls = RX6 ∧ yX6_tellsTown.cls ≠ "java/lang/invoke/MethodHandle" ∧ yX6_tellsTown.cls ≠ "java/lang/invoke/VarHandle" ∧ (parseMethodDescriptor yX6_tellsTown.desc).map (fun d => d.parameters.length) = some 0 := by decide +kernel
  have hf21_10 : Cond.fieldLink RX10 21 "KeyOnStreet" (TX10 1).2.1 (TX10 1).2.2.1 ∈ wsX10_town := by decide +kernel
  have hd_X8_readFrom : yX8_readFrom.cls = RX8 ∧ yX8_readFrom.cls ≠ "java/lang/invoke/MethodHandle" ∧ yX8_readFrom.cls ≠ "java/lang/invoke/VarHandle" ∧ (parseMethodDescriptor yX8_readFrom.desc).map (fun d => d.parameters.length) = some 1 := by decide +kernel
  have hf51_6 : Cond.fieldLink RX10 51 "KeyOnStreet$Page" (TX6 1).2.1 (TX6 1).2.2.1 ∈ wsX10_town := by decide +kernel
  have hi6 : ∀ w ∈ u_ws RX6 TX6 2, w ∈ wsX10_town := by decide +kernel
  have hf30_10 : Cond.fieldLink RX10 30 "KeyOnStreet" (TX10 2).2.1 (TX10 2).2.2.1 ∈ wsX10_town := by decide +kernel
  have hd_X5_begin : yX5_begin.cls = RX5 ∧ yX5_begin.cls ≠ "java/lang/invoke/MethodHandle" ∧ yX5_begin.cls ≠ "java/lang/invoke/VarHandle" ∧ (parseMethodDescriptor yX5_begin.desc).map (fun d => d.parameters.length) = some 0 := by decide +kernel
  have hf70_10 : Cond.fieldLink RX10 70 "KeyOnStreet" (TX10 6).2.1 (TX10 6).2.2.1 ∈ wsX10_town := by decide +kernel
  have hf74_10 : Cond.fieldLink RX10 74 "KeyOnStreet" (TX10 7).2.1 (TX10 7).2.2.1 ∈ wsX10_town := by decide +kernel
  have hf77_8 : Cond.fieldLink RX10 77 "KeyOnStreet$Town" (TX8 2).2.1 (TX8 2).2.2.1 ∈ wsX10_town := by decide +kernel
  have hi8 : ∀ w ∈ u_ws RX8 TX8 4, w ∈ wsX10_town := by decide +kernel
  refine q_aload_n F 0 dX10_town_0 rfl ?_
  refine q_get F (ci := 10) (j := 0) (v := .ref (q 0)) (List.mem_append_left _ (List.mem_of_getElem? (i := 0) rfl)) rfl hi10 (by decide) hf12_10 rfl rfl dX10_town_1 ?_
  refine q_callV F (ci := 6) (As := []) (rest := []) (List.mem_append_right _ (List.mem_append_left _ (List.mem_of_getElem? (i := 0) rfl))) rfl (c_X6_tellsTown l E q n pf (oC x (q 0) (t 0) (a 0) (k 0) (u 0) (r 0) g ++ (pC E q n pf ++ (tC E t T ++ (nC E a (t 0) sn B ++ (kC (a 1) kp km ku ++ (nC E k (t 0) sn1 B1 ++ (kC (k 1) kp1 km1 ku1 ++ (nC E u (t 0) sn2 B2 ++ (kC (u 1) kp2 km2 ku2 ++ (rC E r (t 0) kd rg O BO ++ (ksC kd P M U ++ tl))))))))))) (isIn.r _ (isIn.l _ _)) hq hc) (List.Perm.refl _) gX10_town_X6_tellsTown rfl rfl rfl hd_X6_tellsTown ⟨by decide, by decide⟩ rfl (Nat.le_of_ble_eq_true rfl) dX10_town_4 ⟨Nat.le_of_ble_eq_true rfl, Nat.le_of_ble_eq_true rfl⟩ (fun v_ w_ hvw => ?_)
  rw [hvw.1, hvw.2]
  clear hvw
  refine q_at (pc' := 7) (st' := [.int (bI (decide (n % 5 = 4 ∧ 14 ≤ n ∧ ftF pf n 31 0 = n)))]) (ws' := oC x (q 0) (t 0) (a 0) (k 0) (u 0) (r 0) g ++ (pC E q n pf ++ (tC E t T ++ (nC E a (t 0) sn B ++ (kC (a 1) kp km ku ++ (nC E k (t 0) sn1 B1 ++ (kC (k 1) kp1 km1 ku1 ++ (nC E u (t 0) sn2 B2 ++ (kC (u 1) kp2 km2 ku2 ++ (rC E r (t 0) kd rg O BO ++ (ksC kd P M U ++ tl))))))))))) (k' := 0) (n' := 0) rfl rfl rfl rfl rfl ?_
  refine q_if_ne F (tgt := 13) dX10_town_7 (by decide) (fun h_7 => ?_) (fun h_7 => ?_)
  · skip
    have hb_7 := bI_1 h_7
    have htc := of_decide_eq_true hb_7
    refine q_aload_n F 0 dX10_town_13 rfl ?_
    refine q_get F (ci := 10) (j := 1) (v := .ref (t 0)) (List.mem_append_left _ (List.mem_of_getElem? (i := 0) rfl)) rfl hi10 (by decide) hf21_10 rfl rfl dX10_town_14 ?_
    refine q_aload_n F 0 dX10_town_17 rfl ?_
    refine q_get F (ci := 10) (j := 0) (v := .ref (q 0)) (List.mem_append_left _ (List.mem_of_getElem? (i := 0) rfl)) rfl hi10 (by decide) hf12_10 rfl rfl dX10_town_18 ?_
    refine q_perm pf2 ?_
    refine q_callV F (ci := 8) (As := [.ref (q 0)]) (rest := []) (List.mem_append_left _ (List.mem_of_getElem? (i := 0) rfl)) rfl (c_X8_readFrom l E t T hn q n pf (oC x (q 0) (t 0) (a 0) (k 0) (u 0) (r 0) g ++ (pC E q n pf ++ (nC E a (t 0) sn B ++ (kC (a 1) kp km ku ++ (nC E k (t 0) sn1 B1 ++ (kC (k 1) kp1 km1 ku1 ++ (nC E u (t 0) sn2 B2 ++ (kC (u 1) kp2 km2 ku2 ++ (rC E r (t 0) kd rg O BO ++ (ksC kd P M U ++ tl)))))))))) (isIn.r _ (isIn.l _ _)) hq (kfP pf) htc.1 (kfP_ok hq htc.2.2)) (List.Perm.refl _) gX10_town_X8_readFrom rfl rfl rfl hd_X8_readFrom ⟨by decide, by decide⟩ rfl (Nat.le_of_ble_eq_true rfl) dX10_town_21 ⟨Nat.le_of_ble_eq_true rfl, Nat.le_of_ble_eq_true rfl⟩ (fun v_ w_ hvw => ?_)
    obtain ⟨hv_, ad, X0, hw_, hX0⟩ := hvw
    rw [hv_, hw_]
    clear hv_ hw_
    refine q_at (pc' := 24) (st' := []) (ws' := tC E t (twT pf (kfP pf) ((n + 1) / 5) ad) ++ (X0 ++ (oC x (q 0) (t 0) (a 0) (k 0) (u 0) (r 0) g ++ (pC E q n pf ++ (nC E a (t 0) sn B ++ (kC (a 1) kp km ku ++ (nC E k (t 0) sn1 B1 ++ (kC (k 1) kp1 km1 ku1 ++ (nC E u (t 0) sn2 B2 ++ (kC (u 1) kp2 km2 ku2 ++ (rC E r (t 0) kd rg O BO ++ (ksC kd P M U ++ tl)))))))))))) (k' := 6) (n' := 18) rfl rfl rfl rfl rfl ?_
    refine q_perm pf1 ?_
    refine q_perm pf11 ?_
    refine q_perm pf11 ?_
    refine q_perm pf11 ?_
    refine q_perm pf11 ?_
    refine q_perm pf11 ?_
    refine q_perm pf11 ?_
    refine q_perm pf11 ?_
    refine q_perm pf11 ?_
    refine q_perm pf9 ?_
    refine q_perm pf11 ?_
    refine q_perm pf11 ?_
    have hH : isHs (twT pf (kfP pf) ((n + 1) / 5) ad) (X0 ++ tl) := isHs_l hX0
    have hn : tN (twT pf (kfP pf) ((n + 1) / 5) ad) ≤ 6 := by show ((n + 1) / 5) ≤ 6; omega
    refine q_aload_n F 0 dX10_town_24 rfl ?_
    refine q_get F (ci := 10) (j := 0) (v := .ref (q 0)) (List.mem_append_left _ (List.mem_of_getElem? (i := 0) rfl)) rfl hi10 (by decide) hf12_10 rfl rfl dX10_town_25 ?_
    refine q_iconst F dX10_town_28 (v := nI 0) (by decide) ?_
    refine q_perm pf1 ?_
    refine q_put F (j := 1) 0 rfl rfl hi6 tyX6 tyX6_ok nmX6 (by decide) hf51_6 rfl rfl rfl rfl (Nat.le_of_ble_eq_true rfl) dX10_town_29 (ws' := pC E q 0 pf ++ (oC x (q 0) (t 0) (a 0) (k 0) (u 0) (r 0) g ++ (tC E t (twT pf (kfP pf) ((n + 1) / 5) ad) ++ (nC E a (t 0) sn B ++ (kC (a 1) kp km ku ++ (nC E k (t 0) sn1 B1 ++ (kC (k 1) kp1 km1 ku1 ++ (nC E u (t 0) sn2 B2 ++ (kC (u 1) kp2 km2 ku2 ++ (rC E r (t 0) kd rg O BO ++ (ksC kd P M U ++ (X0 ++ tl)))))))))))) rfl ?_
    refine q_aload_n F 0 dX10_town_32 rfl ?_
    refine q_get F (ci := 10) (j := 2) (v := .ref (a 0)) (List.mem_append_right _ (List.mem_append_left _ (List.mem_of_getElem? (i := 0) rfl))) rfl hi10 (by decide) hf30_10 rfl rfl dX10_town_33 ?_
    refine q_perm pf4 ?_
    refine q_perm pf4 ?_
    refine q_callV F (ci := 5) (As := []) (rest := []) (List.mem_append_left _ (List.mem_of_getElem? (i := 0) rfl)) rfl (c_X5_begin l E a t (twT pf (kfP pf) ((n + 1) / 5) ad) sn B kp km ku (pC E q 0 pf ++ (oC x (q 0) (t 0) (a 0) (k 0) (u 0) (r 0) g ++ (tC E t (twT pf (kfP pf) ((n + 1) / 5) ad) ++ (nC E k (t 0) sn1 B1 ++ (kC (k 1) kp1 km1 ku1 ++ (nC E u (t 0) sn2 B2 ++ (kC (u 1) kp2 km2 ku2 ++ (rC E r (t 0) kd rg O BO ++ (ksC kd P M U ++ (X0 ++ tl)))))))))) (isIn.r _ (isIn.r _ (isIn.l _ _))) (isHs.r _ (isHs.r _ (isHs.r _ (isHs.r _ (isHs.r _ (isHs.r _ (isHs.r _ (isHs.r _ (isHs.r _ hH))))))))) hn ) (List.Perm.refl _) gX10_town_X5_begin rfl rfl rfl hd_X5_begin ⟨by decide, by decide⟩ rfl (Nat.le_of_ble_eq_true rfl) dX10_town_36 ⟨Nat.le_of_ble_eq_true rfl, Nat.le_of_ble_eq_true rfl⟩ (fun v_ w_ hvw => ?_)
    rw [hvw.1, hvw.2]
    clear hvw
    refine q_at (pc' := 39) (st' := []) (ws' := nC E a (t 0) (nI 0) (bgB B) ++ (kC (a 1) (nI 0) (nI 0) (nI 0) ++ (pC E q 0 pf ++ (oC x (q 0) (t 0) (a 0) (k 0) (u 0) (r 0) g ++ (tC E t (twT pf (kfP pf) ((n + 1) / 5) ad) ++ (nC E k (t 0) sn1 B1 ++ (kC (k 1) kp1 km1 ku1 ++ (nC E u (t 0) sn2 B2 ++ (kC (u 1) kp2 km2 ku2 ++ (rC E r (t 0) kd rg O BO ++ (ksC kd P M U ++ (X0 ++ tl)))))))))))) (k' := 6) (n' := 18) rfl rfl rfl rfl rfl ?_
    refine q_aload_n F 0 dX10_town_39 rfl ?_
    refine q_iconst F dX10_town_40 (v := nI 0) (by decide) ?_
    refine q_perm pf3 ?_
    refine q_put F (j := 6) 0 rfl rfl hi10 tyX10 tyX10_ok nmX10 (by decide) hf70_10 rfl rfl (by decide) rfl (Nat.le_of_ble_eq_true rfl) dX10_town_41 (ws' := oC x (q 0) (t 0) (a 0) (k 0) (u 0) (r 0) (upd g 6 (nI 0)) ++ (nC E a (t 0) (nI 0) (bgB B) ++ (kC (a 1) (nI 0) (nI 0) (nI 0) ++ (pC E q 0 pf ++ (tC E t (twT pf (kfP pf) ((n + 1) / 5) ad) ++ (nC E k (t 0) sn1 B1 ++ (kC (k 1) kp1 km1 ku1 ++ (nC E u (t 0) sn2 B2 ++ (kC (u 1) kp2 km2 ku2 ++ (rC E r (t 0) kd rg O BO ++ (ksC kd P M U ++ (X0 ++ tl)))))))))))) rfl ?_
    refine q_aload_n F 0 dX10_town_44 rfl ?_
    refine q_dup F dX10_town_45 rfl ?_
    refine q_get F (ci := 10) (j := 7) (v := .int (g 7)) (List.mem_append_left _ (List.mem_of_getElem? (i := 0) rfl)) rfl hi10 (by decide) hf74_10 rfl rfl dX10_town_46 ?_
    refine q_iconst F dX10_town_49 (v := nI 1) (by decide) ?_
    refine q_iadd F dX10_town_50 ?_
    refine q_put F (j := 7) 0 rfl rfl hi10 tyX10 tyX10_ok nmX10 (by decide) hf74_10 rfl rfl rfl rfl (Nat.le_of_ble_eq_true rfl) dX10_town_51 (ws' := oC x (q 0) (t 0) (a 0) (k 0) (u 0) (r 0) (upd (upd g 6 (nI 0)) 7 ((g 7) + (nI 1))) ++ (nC E a (t 0) (nI 0) (bgB B) ++ (kC (a 1) (nI 0) (nI 0) (nI 0) ++ (pC E q 0 pf ++ (tC E t (twT pf (kfP pf) ((n + 1) / 5) ad) ++ (nC E k (t 0) sn1 B1 ++ (kC (k 1) kp1 km1 ku1 ++ (nC E u (t 0) sn2 B2 ++ (kC (u 1) kp2 km2 ku2 ++ (rC E r (t 0) kd rg O BO ++ (ksC kd P M U ++ (X0 ++ tl)))))))))))) rfl ?_
    refine q_aload_n F 0 dX10_town_54 rfl ?_
    refine q_get F (ci := 10) (j := 1) (v := .ref (t 0)) (List.mem_append_left _ (List.mem_of_getElem? (i := 0) rfl)) rfl hi10 (by decide) hf21_10 rfl rfl dX10_town_55 ?_
    refine q_get F (ci := 8) (j := 2) (v := .int (nI (tN (twT pf (kfP pf) ((n + 1) / 5) ad)))) (List.mem_append_right _ (List.mem_append_right _ (List.mem_append_right _ (List.mem_append_right _ (List.mem_append_left _ (List.mem_of_getElem? (i := 0) rfl)))))) rfl hi8 (by decide) hf77_8 rfl rfl dX10_town_58 ?_
    refine q_perm pf10 ?_
    refine q_perm pf10 ?_
    refine q_perm pf10 ?_
    refine q_perm pf10 ?_
    refine q_perm pf10 ?_
    refine q_perm pf10 ?_
    refine q_perm pf8 ?_
    refine q_perm pf8 ?_
    refine q_perm pf10 ?_
    refine q_perm pf10 ?_
    refine q_perm pf10 ?_
    exact q_iret F hr_ dX10_town_61 (hp_ _ _ ⟨nI (tN (twT pf (kfP pf) ((n + 1) / 5) ad)), (((twT pf (kfP pf) ((n + 1) / 5) ad), 0, pf, upd (upd g 6 (nI 0)) 7 ((g 7) + (nI 1)), (nI 0, bgB B, nI 0, nI 0, nI 0), (sn1, B1, kp1, km1, ku1), (sn2, B2, kp2, km2, ku2), (rg, O, BO, P, M, U)) : gSt), X0, rfl, rfl, Or.inr ⟨htc, ad, rfl, rfl, hX0⟩⟩)
  · skip
    have hb_7 := bI_0 h_7
    refine q_bipush F dX10_town_10 (v := (-103)) (by decide) ?_
    refine q_perm pf10 ?_
    refine q_perm pf10 ?_
    refine q_perm pf10 ?_
    refine q_perm pf10 ?_
    refine q_perm pf10 ?_
    refine q_perm pf10 ?_
    refine q_perm pf10 ?_
    refine q_perm pf10 ?_
    refine q_perm pf10 ?_
    refine q_perm pf10 ?_
    refine q_perm pf10 ?_
    refine q_widen (k' := 6) (n' := 18) (by decide) (by decide) ?_
    exact q_iret F hr_ dX10_town_12 (hp_ _ _ ⟨(-103), ((T, n, pf, g, (sn, B, kp, km, ku), (sn1, B1, kp1, km1, ku1), (sn2, B2, kp2, km2, ku2), (rg, O, BO, P, M, U)) : gSt), [], rfl, rfl, Or.inl ⟨fun z => by rw [decide_eq_true z] at hb_7; exact absurd hb_7 (by decide), rfl, rfl, rfl⟩⟩)

set_option maxHeartbeats 2000000 in
set_option maxRecDepth 100000 in
theorem c_X10_about (l : Launch) (E : gEnv) (x : Nat) (q t a k u r kd : Nat → Nat) (T : gTown) (g : Nat → Int32) (n : Nat) (pf : Nat → Int32) (sn : Int32) (B : Nat → Nat → Int32) (kp km ku : Int32) (sn1 : Int32) (B1 : Nat → Nat → Int32) (kp1 km1 ku1 : Int32) (sn2 : Int32) (B2 : Nat → Nat → Int32) (kp2 km2 ku2 : Int32) (rg O BO P M U : Nat → Int32) (tl : va_W) (hH : isHs T tl) (hn : tN T ≤ 6) (hq : n ≤ 30) (x1 x2 : Int32) : Cn l E yX10_about wsX10_about (rmL 2 0 0) [.ref x, .int x1, .int x2] (oC x (q 0) (t 0) (a 0) (k 0) (u 0) (r 0) g ++ (pC E q n pf ++ (tC E t T ++ (nC E a (t 0) sn B ++ (kC (a 1) kp km ku ++ (nC E k (t 0) sn1 B1 ++ (kC (k 1) kp1 km1 ku1 ++ (nC E u (t 0) sn2 B2 ++ (kC (u 1) kp2 km2 ku2 ++ (rC E r (t 0) kd rg O BO ++ (ksC kd P M U ++ tl))))))))))) 0 0 (fun v w => ∃ (y : Int32) (S' : gSt), v = some (.int y) ∧ w = xW E (x, q, t, a, k, u, r, kd) S' tl ∧ ((hsB (tN T) x1 = false ∧ y = (-101) ∧ S' = ((T, n, pf, g, (sn, B, kp, km, ku), (sn1, B1, kp1, km1, ku1), (sn2, B2, kp2, km2, ku2), (rg, O, BO, P, M, U)) : gSt)) ∨ (hsB (tN T) x1 = true ∧ inI x2 (nI 0) (nI 7) = false ∧ y = (-102) ∧ S' = ((T, n, pf, g, (sn, B, kp, km, ku), (sn1, B1, kp1, km1, ku1), (sn2, B2, kp2, km2, ku2), (rg, O, BO, P, M, U)) : gSt)) ∨ (∃ (h j : Nat), h < tN T ∧ x1 = nI h ∧ j ≤ 7 ∧ x2 = nI j ∧ y = tdF T B h j ∧ S' = ((T, n, pf, g, (sn, B, kp, km, ku), (sn1, B1, kp1, km1, ku1), (sn2, B2, kp2, km2, ku2), (rg, O, BO, P, M, U)) : gSt)))) := by
  refine Cn.of (own := RX10) (cc := cX10_about) (maxL := 3) (ret := (some .int)) (lv := [(0, .ref x), (1, .int x1), (2, .int x2)]) (by decide) rfl rfl (Nat.le_of_ble_eq_true rfl) rfl ?_
  intro p_ e_ s_ m_ args_ below_ meth_ c_ A_ P_ hp_ F hr_ hnm_
  have hf21_10 : Cond.fieldLink RX10 21 "KeyOnStreet" (TX10 1).2.1 (TX10 1).2.2.1 ∈ wsX10_about := by decide +kernel
  have hi10 : ∀ w ∈ u_ws RX10 TX10 11, w ∈ wsX10_about := by decide +kernel
  have hd_X8_has : yX8_has.cls = RX8 ∧ yX8_has.cls ≠ "java/lang/invoke/MethodHandle" ∧ yX8_has.cls ≠ "java/lang/invoke/VarHandle" ∧ (parseMethodDescriptor yX8_has.desc).map (fun d => d.parameters.length) = some 1 := by decide +kernel
  have hd_X10_toldOf : yX10_toldOf.cls = RX10 ∧ yX10_toldOf.cls ≠ "java/lang/invoke/MethodHandle" ∧ yX10_toldOf.cls ≠ "java/lang/invoke/VarHandle" ∧ (parseMethodDescriptor yX10_toldOf.desc).map (fun d => d.parameters.length) = some 2 := by decide +kernel
  refine q_aload_n F 0 dX10_about_0 rfl ?_
  refine q_get F (ci := 10) (j := 1) (v := .ref (t 0)) (List.mem_append_left _ (List.mem_of_getElem? (i := 0) rfl)) rfl hi10 (by decide) hf21_10 rfl rfl dX10_about_1 ?_
  refine q_iload_n F 1 dX10_about_4 rfl ?_
  refine q_callV F (ci := 8) (As := [.int x1]) (rest := []) (List.mem_append_right _ (List.mem_append_right _ (List.mem_append_left _ (List.mem_of_getElem? (i := 0) rfl)))) rfl (c_X8_has l E t T (oC x (q 0) (t 0) (a 0) (k 0) (u 0) (r 0) g ++ (pC E q n pf ++ (tC E t T ++ (nC E a (t 0) sn B ++ (kC (a 1) kp km ku ++ (nC E k (t 0) sn1 B1 ++ (kC (k 1) kp1 km1 ku1 ++ (nC E u (t 0) sn2 B2 ++ (kC (u 1) kp2 km2 ku2 ++ (rC E r (t 0) kd rg O BO ++ (ksC kd P M U ++ tl))))))))))) (isIn.r _ (isIn.r _ (isIn.l _ _))) x1) (List.Perm.refl _) gX10_about_X8_has rfl rfl rfl hd_X8_has ⟨by decide, by decide⟩ rfl (Nat.le_of_ble_eq_true rfl) dX10_about_5 ⟨Nat.le_of_ble_eq_true rfl, Nat.le_of_ble_eq_true rfl⟩ (fun v_ w_ hvw => ?_)
  rw [hvw.1, hvw.2]
  clear hvw
  refine q_at (pc' := 8) (st' := [.int (bI (hsB (tN T) x1))]) (ws' := oC x (q 0) (t 0) (a 0) (k 0) (u 0) (r 0) g ++ (pC E q n pf ++ (tC E t T ++ (nC E a (t 0) sn B ++ (kC (a 1) kp km ku ++ (nC E k (t 0) sn1 B1 ++ (kC (k 1) kp1 km1 ku1 ++ (nC E u (t 0) sn2 B2 ++ (kC (u 1) kp2 km2 ku2 ++ (rC E r (t 0) kd rg O BO ++ (ksC kd P M U ++ tl))))))))))) (k' := 0) (n' := 0) rfl rfl rfl rfl rfl ?_
  refine q_if_ne F (tgt := 14) dX10_about_8 (by decide) (fun h_8 => ?_) (fun h_8 => ?_)
  · skip
    have hb_8 := bI_1 h_8
    refine q_iload_n F 2 dX10_about_14 rfl ?_
    refine q_if_lt F (tgt := 24) dX10_about_15 (by decide) (fun h_15 => ?_) (fun h_15 => ?_)
    · skip
      have hz_15 := Int32.not_le.mpr h_15
      refine q_bipush F dX10_about_24 (v := (-102)) (by decide) ?_
      refine q_perm pf10 ?_
      refine q_perm pf10 ?_
      refine q_perm pf10 ?_
      refine q_perm pf10 ?_
      refine q_perm pf10 ?_
      refine q_perm pf10 ?_
      refine q_perm pf10 ?_
      refine q_perm pf10 ?_
      refine q_perm pf10 ?_
      refine q_perm pf10 ?_
      refine q_perm pf10 ?_
      exact q_iret F hr_ dX10_about_26 (hp_ _ _ ⟨(-102), ((T, n, pf, g, (sn, B, kp, km, ku), (sn1, B1, kp1, km1, ku1), (sn2, B2, kp2, km2, ku2), (rg, O, BO, P, M, U)) : gSt), rfl, rfl, Or.inr (Or.inl (⟨hb_8, inI_lo h_15, rfl, rfl⟩))⟩)
    · skip
      have hz_15 := Int32.not_lt.mp h_15
      refine q_iload_n F 2 dX10_about_18 rfl ?_
      refine q_bipush F dX10_about_19 (v := nI 7) (by decide) ?_
      refine q_icmp_le F (tgt := 27) dX10_about_21 (by decide) (fun h_21 => ?_) (fun h_21 => ?_)
      · skip
        have hz_21 := Int32.not_lt.mpr h_21
        obtain ⟨h, hh, rfl⟩ := hsB_of hn hb_8
        obtain ⟨j, hlo_j, hhi_j, rfl⟩ := inI_nat (by decide) (by decide) (inI_t (lo := nI 0) h_15 hz_21)
        refine q_aload_n F 0 dX10_about_27 rfl ?_
        refine q_iload_n F 1 dX10_about_28 rfl ?_
        refine q_iload_n F 2 dX10_about_29 rfl ?_
        refine q_perm pf10 ?_
        refine q_perm pf10 ?_
        refine q_perm pf10 ?_
        refine q_perm pf10 ?_
        refine q_perm pf10 ?_
        refine q_perm pf10 ?_
        refine q_perm pf10 ?_
        refine q_perm pf10 ?_
        refine q_perm pf10 ?_
        refine q_perm pf10 ?_
        refine q_perm pf10 ?_
        refine q_callV F (ci := 10) (As := [.int (nI h), .int (nI j)]) (rest := []) (List.mem_append_left _ (List.mem_of_getElem? (i := 0) rfl)) rfl (c_X10_toldOf l E x q t a k u r kd T g n pf sn B kp km ku sn1 B1 kp1 km1 ku1 sn2 B2 kp2 km2 ku2 rg O BO P M U tl hH hn hq h j (by omega) (by omega)) (List.Perm.refl _) gX10_about_X10_toldOf rfl rfl rfl hd_X10_toldOf ⟨by decide, by decide⟩ rfl (Nat.le_of_ble_eq_true rfl) dX10_about_30 ⟨Nat.le_of_ble_eq_true rfl, Nat.le_of_ble_eq_true rfl⟩ (fun v_ w_ hvw => ?_)
        rw [hvw.1, hvw.2]
        clear hvw
        refine q_at (pc' := 33) (st' := [.int (tdF T B h j)]) (ws' := oC x (q 0) (t 0) (a 0) (k 0) (u 0) (r 0) g ++ (pC E q n pf ++ (tC E t T ++ (nC E a (t 0) sn B ++ (kC (a 1) kp km ku ++ (nC E k (t 0) sn1 B1 ++ (kC (k 1) kp1 km1 ku1 ++ (nC E u (t 0) sn2 B2 ++ (kC (u 1) kp2 km2 ku2 ++ (rC E r (t 0) kd rg O BO ++ (ksC kd P M U ++ tl))))))))))) (k' := 0) (n' := 0) rfl rfl rfl rfl rfl ?_
        refine q_perm pf10 ?_
        refine q_perm pf10 ?_
        refine q_perm pf10 ?_
        refine q_perm pf10 ?_
        refine q_perm pf10 ?_
        refine q_perm pf10 ?_
        refine q_perm pf10 ?_
        refine q_perm pf10 ?_
        refine q_perm pf10 ?_
        refine q_perm pf10 ?_
        refine q_perm pf10 ?_
        exact q_iret F hr_ dX10_about_33 (hp_ _ _ ⟨tdF T B h j, ((T, n, pf, g, (sn, B, kp, km, ku), (sn1, B1, kp1, km1, ku1), (sn2, B2, kp2, km2, ku2), (rg, O, BO, P, M, U)) : gSt), rfl, rfl, Or.inr (Or.inr (⟨h, j, hh, rfl, hhi_j, rfl, rfl, rfl⟩))⟩)
      · skip
        have hz_21 := Int32.not_le.mp h_21
        refine q_bipush F dX10_about_24 (v := (-102)) (by decide) ?_
        refine q_perm pf10 ?_
        refine q_perm pf10 ?_
        refine q_perm pf10 ?_
        refine q_perm pf10 ?_
        refine q_perm pf10 ?_
        refine q_perm pf10 ?_
        refine q_perm pf10 ?_
        refine q_perm pf10 ?_
        refine q_perm pf10 ?_
        refine q_perm pf10 ?_
        refine q_perm pf10 ?_
        exact q_iret F hr_ dX10_about_26 (hp_ _ _ ⟨(-102), ((T, n, pf, g, (sn, B, kp, km, ku), (sn1, B1, kp1, km1, ku1), (sn2, B2, kp2, km2, ku2), (rg, O, BO, P, M, U)) : gSt), rfl, rfl, Or.inr (Or.inl (⟨hb_8, inI_hi hz_21, rfl, rfl⟩))⟩)
  · skip
    have hb_8 := bI_0 h_8
    refine q_bipush F dX10_about_11 (v := (-101)) (by decide) ?_
    refine q_perm pf10 ?_
    refine q_perm pf10 ?_
    refine q_perm pf10 ?_
    refine q_perm pf10 ?_
    refine q_perm pf10 ?_
    refine q_perm pf10 ?_
    refine q_perm pf10 ?_
    refine q_perm pf10 ?_
    refine q_perm pf10 ?_
    refine q_perm pf10 ?_
    refine q_perm pf10 ?_
    exact q_iret F hr_ dX10_about_13 (hp_ _ _ ⟨(-101), ((T, n, pf, g, (sn, B, kp, km, ku), (sn1, B1, kp1, km1, ku1), (sn2, B2, kp2, km2, ku2), (rg, O, BO, P, M, U)) : gSt), rfl, rfl, Or.inl (⟨by simpa using hb_8, rfl, rfl⟩)⟩)

set_option maxHeartbeats 2000000 in
set_option maxRecDepth 100000 in
theorem c_X10_as (l : Launch) (E : gEnv) (x : Nat) (q t a k u r kd : Nat → Nat) (T : gTown) (g : Nat → Int32) (n : Nat) (pf : Nat → Int32) (sn : Int32) (B : Nat → Nat → Int32) (kp km ku : Int32) (sn1 : Int32) (B1 : Nat → Nat → Int32) (kp1 km1 ku1 : Int32) (sn2 : Int32) (B2 : Nat → Nat → Int32) (kp2 km2 ku2 : Int32) (rg O BO P M U : Nat → Int32) (tl : va_W) (hH : isHs T tl) (hn : tN T ≤ 6) (hq : n ≤ 30) (x1 x2 : Int32) : Cn l E yX10_as wsX10_as (rmL 1 0 0) [.ref x, .int x1, .int x2] (oC x (q 0) (t 0) (a 0) (k 0) (u 0) (r 0) g ++ (pC E q n pf ++ (tC E t T ++ (nC E a (t 0) sn B ++ (kC (a 1) kp km ku ++ (nC E k (t 0) sn1 B1 ++ (kC (k 1) kp1 km1 ku1 ++ (nC E u (t 0) sn2 B2 ++ (kC (u 1) kp2 km2 ku2 ++ (rC E r (t 0) kd rg O BO ++ (ksC kd P M U ++ tl))))))))))) 0 0 (fun v w => ∃ (y : Int32) (S' : gSt), v = some (.int y) ∧ w = xW E (x, q, t, a, k, u, r, kd) S' tl ∧ ((hsB (tN T) x1 = false ∧ y = (-101) ∧ S' = ((T, n, pf, g, (sn, B, kp, km, ku), (sn1, B1, kp1, km1, ku1), (sn2, B2, kp2, km2, ku2), (rg, O, BO, P, M, U)) : gSt)) ∨ (hsB (tN T) x1 = true ∧ inI x2 (nI 0) (nI 4) = false ∧ y = (-102) ∧ S' = ((T, n, pf, g, (sn, B, kp, km, ku), (sn1, B1, kp1, km1, ku1), (sn2, B2, kp2, km2, ku2), (rg, O, BO, P, M, U)) : gSt)) ∨ (∃ (h j : Nat), h < tN T ∧ x1 = nI h ∧ j ≤ 4 ∧ x2 = nI j ∧ y = (if isS (tK T h) j then nI h else (-1)) ∧ S' = ((T, n, pf, g, (sn, B, kp, km, ku), (sn1, B1, kp1, km1, ku1), (sn2, B2, kp2, km2, ku2), (rg, O, BO, P, M, U)) : gSt)))) := by
  refine Cn.of (own := RX10) (cc := cX10_as) (maxL := 3) (ret := (some .int)) (lv := [(0, .ref x), (1, .int x1), (2, .int x2)]) (by decide) rfl rfl (Nat.le_of_ble_eq_true rfl) rfl ?_
  intro p_ e_ s_ m_ args_ below_ meth_ c_ A_ P_ hp_ F hr_ hnm_
  have hf21_10 : Cond.fieldLink RX10 21 "KeyOnStreet" (TX10 1).2.1 (TX10 1).2.2.1 ∈ wsX10_as := by decide +kernel
  have hi10 : ∀ w ∈ u_ws RX10 TX10 11, w ∈ wsX10_as := by decide +kernel
  have hd_X8_has : yX8_has.cls = RX8 ∧ yX8_has.cls ≠ "java/lang/invoke/MethodHandle" ∧ yX8_has.cls ≠ "java/lang/invoke/VarHandle" ∧ (parseMethodDescriptor yX8_has.desc).map (fun d => d.parameters.length) = some 1 := by decide +kernel
  have hd_X8_at : yX8_at.cls = RX8 ∧ yX8_at.cls ≠ "java/lang/invoke/MethodHandle" ∧ yX8_at.cls ≠ "java/lang/invoke/VarHandle" ∧ (parseMethodDescriptor yX8_at.desc).map (fun d => d.parameters.length) = some 1 := by decide +kernel
  have hd_X10_isSuch : yX10_isSuch.cls ≠ "java/lang/invoke/MethodHandle" ∧ yX10_isSuch.cls ≠ "java/lang/invoke/VarHandle" ∧ (parseMethodDescriptor yX10_isSuch.desc).map (fun d => d.parameters.length) = some 2 := by decide +kernel
  refine q_aload_n F 0 dX10_as_0 rfl ?_
  refine q_get F (ci := 10) (j := 1) (v := .ref (t 0)) (List.mem_append_left _ (List.mem_of_getElem? (i := 0) rfl)) rfl hi10 (by decide) hf21_10 rfl rfl dX10_as_1 ?_
  refine q_iload_n F 1 dX10_as_4 rfl ?_
  refine q_callV F (ci := 8) (As := [.int x1]) (rest := []) (List.mem_append_right _ (List.mem_append_right _ (List.mem_append_left _ (List.mem_of_getElem? (i := 0) rfl)))) rfl (c_X8_has l E t T (oC x (q 0) (t 0) (a 0) (k 0) (u 0) (r 0) g ++ (pC E q n pf ++ (tC E t T ++ (nC E a (t 0) sn B ++ (kC (a 1) kp km ku ++ (nC E k (t 0) sn1 B1 ++ (kC (k 1) kp1 km1 ku1 ++ (nC E u (t 0) sn2 B2 ++ (kC (u 1) kp2 km2 ku2 ++ (rC E r (t 0) kd rg O BO ++ (ksC kd P M U ++ tl))))))))))) (isIn.r _ (isIn.r _ (isIn.l _ _))) x1) (List.Perm.refl _) gX10_as_X8_has rfl rfl rfl hd_X8_has ⟨by decide, by decide⟩ rfl (Nat.le_of_ble_eq_true rfl) dX10_as_5 ⟨Nat.le_of_ble_eq_true rfl, Nat.le_of_ble_eq_true rfl⟩ (fun v_ w_ hvw => ?_)
  rw [hvw.1, hvw.2]
  clear hvw
  refine q_at (pc' := 8) (st' := [.int (bI (hsB (tN T) x1))]) (ws' := oC x (q 0) (t 0) (a 0) (k 0) (u 0) (r 0) g ++ (pC E q n pf ++ (tC E t T ++ (nC E a (t 0) sn B ++ (kC (a 1) kp km ku ++ (nC E k (t 0) sn1 B1 ++ (kC (k 1) kp1 km1 ku1 ++ (nC E u (t 0) sn2 B2 ++ (kC (u 1) kp2 km2 ku2 ++ (rC E r (t 0) kd rg O BO ++ (ksC kd P M U ++ tl))))))))))) (k' := 0) (n' := 0) rfl rfl rfl rfl rfl ?_
  refine q_if_ne F (tgt := 14) dX10_as_8 (by decide) (fun h_8 => ?_) (fun h_8 => ?_)
  · skip
    have hb_8 := bI_1 h_8
    refine q_iload_n F 2 dX10_as_14 rfl ?_
    refine q_if_lt F (tgt := 23) dX10_as_15 (by decide) (fun h_15 => ?_) (fun h_15 => ?_)
    · skip
      have hz_15 := Int32.not_le.mpr h_15
      refine q_bipush F dX10_as_23 (v := (-102)) (by decide) ?_
      refine q_perm pf10 ?_
      refine q_perm pf10 ?_
      refine q_perm pf10 ?_
      refine q_perm pf10 ?_
      refine q_perm pf10 ?_
      refine q_perm pf10 ?_
      refine q_perm pf10 ?_
      refine q_perm pf10 ?_
      refine q_perm pf10 ?_
      refine q_perm pf10 ?_
      refine q_perm pf10 ?_
      exact q_iret F hr_ dX10_as_25 (hp_ _ _ ⟨(-102), ((T, n, pf, g, (sn, B, kp, km, ku), (sn1, B1, kp1, km1, ku1), (sn2, B2, kp2, km2, ku2), (rg, O, BO, P, M, U)) : gSt), rfl, rfl, Or.inr (Or.inl (⟨hb_8, inI_lo h_15, rfl, rfl⟩))⟩)
    · skip
      have hz_15 := Int32.not_lt.mp h_15
      refine q_iload_n F 2 dX10_as_18 rfl ?_
      refine q_iconst F dX10_as_19 (v := nI 4) (by decide) ?_
      refine q_icmp_le F (tgt := 26) dX10_as_20 (by decide) (fun h_20 => ?_) (fun h_20 => ?_)
      · skip
        have hz_20 := Int32.not_lt.mpr h_20
        obtain ⟨h, hh, rfl⟩ := hsB_of hn hb_8
        obtain ⟨j, hlo_j, hhi_j, rfl⟩ := inI_nat (by decide) (by decide) (inI_t (lo := nI 0) h_15 hz_20)
        refine q_aload_n F 0 dX10_as_26 rfl ?_
        refine q_get F (ci := 10) (j := 1) (v := .ref (t 0)) (List.mem_append_left _ (List.mem_of_getElem? (i := 0) rfl)) rfl hi10 (by decide) hf21_10 rfl rfl dX10_as_27 ?_
        refine q_iload_n F 1 dX10_as_30 rfl ?_
        refine q_callV F (ci := 8) (As := [.int (nI h)]) (rest := []) (List.mem_append_right _ (List.mem_append_right _ (List.mem_append_left _ (List.mem_of_getElem? (i := 0) rfl)))) rfl (c_X8_at l E t T (oC x (q 0) (t 0) (a 0) (k 0) (u 0) (r 0) g ++ (pC E q n pf ++ (tC E t T ++ (nC E a (t 0) sn B ++ (kC (a 1) kp km ku ++ (nC E k (t 0) sn1 B1 ++ (kC (k 1) kp1 km1 ku1 ++ (nC E u (t 0) sn2 B2 ++ (kC (u 1) kp2 km2 ku2 ++ (rC E r (t 0) kd rg O BO ++ (ksC kd P M U ++ tl))))))))))) (isIn.r _ (isIn.r _ (isIn.l _ _))) h (by omega) hn) (List.Perm.refl _) gX10_as_X8_at rfl rfl rfl hd_X8_at ⟨by decide, by decide⟩ rfl (Nat.le_of_ble_eq_true rfl) dX10_as_31 ⟨Nat.le_of_ble_eq_true rfl, Nat.le_of_ble_eq_true rfl⟩ (fun v_ w_ hvw => ?_)
        rw [hvw.1, hvw.2]
        clear hvw
        refine q_at (pc' := 34) (st' := [.ref (tA T h)]) (ws' := oC x (q 0) (t 0) (a 0) (k 0) (u 0) (r 0) g ++ (pC E q n pf ++ (tC E t T ++ (nC E a (t 0) sn B ++ (kC (a 1) kp km ku ++ (nC E k (t 0) sn1 B1 ++ (kC (k 1) kp1 km1 ku1 ++ (nC E u (t 0) sn2 B2 ++ (kC (u 1) kp2 km2 ku2 ++ (rC E r (t 0) kd rg O BO ++ (ksC kd P M U ++ tl))))))))))) (k' := 0) (n' := 0) rfl rfl rfl rfl rfl ?_
        refine q_iload_n F 2 dX10_as_34 rfl ?_
        obtain ⟨hk5_0, hm5_0⟩ := hH h (by omega)
        rcases (show tK T h = 0 ∨ tK T h = 1 ∨ tK T h = 2 ∨ tK T h = 3 ∨ tK T h = 4 by omega) with ek | ek | ek | ek | ek
        · skip
          rw [ek] at hm5_0
          have hm6 : (tA T h, (.inr (0, [.int (tP T h), .int (tL T h), .int (tE T h)]) : va_E)) ∈ tl := hm5_0
          refine q_callS F (As := [.ref (tA T h), .int (nI j)]) (rest := []) (c_X10_isSuch_0 l E (oC x (q 0) (t 0) (a 0) (k 0) (u 0) (r 0) g ++ (pC E q n pf ++ (tC E t T ++ (nC E a (t 0) sn B ++ (kC (a 1) kp km ku ++ (nC E k (t 0) sn1 B1 ++ (kC (k 1) kp1 km1 ku1 ++ (nC E u (t 0) sn2 B2 ++ (kC (u 1) kp2 km2 ku2 ++ (rC E r (t 0) kd rg O BO ++ (ksC kd P M U ++ tl))))))))))) (tA T h) (tP T h) (tL T h) (tE T h) (List.mem_append_right _ (List.mem_append_right _ (List.mem_append_right _ (List.mem_append_right _ (List.mem_append_right _ (List.mem_append_right _ (List.mem_append_right _ (List.mem_append_right _ (List.mem_append_right _ (List.mem_append_right _ (List.mem_append_right _ hm6))))))))))) j (by omega)) (List.Perm.refl _) gX10_as_X10_isSuch rfl rfl rfl hd_X10_isSuch ⟨by decide, by decide⟩ rfl (Nat.le_of_ble_eq_true rfl) dX10_as_35 ⟨Nat.le_of_ble_eq_true rfl, Nat.le_of_ble_eq_true rfl⟩ (fun v_ w_ hvw => ?_)
          rw [hvw.1, hvw.2]
          clear hvw
          refine q_at (pc' := 38) (st' := [.int (bI (isS 0 j))]) (ws' := oC x (q 0) (t 0) (a 0) (k 0) (u 0) (r 0) g ++ (pC E q n pf ++ (tC E t T ++ (nC E a (t 0) sn B ++ (kC (a 1) kp km ku ++ (nC E k (t 0) sn1 B1 ++ (kC (k 1) kp1 km1 ku1 ++ (nC E u (t 0) sn2 B2 ++ (kC (u 1) kp2 km2 ku2 ++ (rC E r (t 0) kd rg O BO ++ (ksC kd P M U ++ tl))))))))))) (k' := 0) (n' := 0) rfl rfl rfl rfl rfl ?_
          refine q_if_eq F (tgt := 45) dX10_as_38 (by decide) (fun h_38 => ?_) (fun h_38 => ?_)
          · skip
            have hb_38 := bI_0 h_38
            refine q_iconst F dX10_as_45 (v := (-1)) (by decide) ?_
            refine q_perm pf10 ?_
            refine q_perm pf10 ?_
            refine q_perm pf10 ?_
            refine q_perm pf10 ?_
            refine q_perm pf10 ?_
            refine q_perm pf10 ?_
            refine q_perm pf10 ?_
            refine q_perm pf10 ?_
            refine q_perm pf10 ?_
            refine q_perm pf10 ?_
            refine q_perm pf10 ?_
            exact q_iret F hr_ dX10_as_46 (hp_ _ _ ⟨(-1), ((T, n, pf, g, (sn, B, kp, km, ku), (sn1, B1, kp1, km1, ku1), (sn2, B2, kp2, km2, ku2), (rg, O, BO, P, M, U)) : gSt), rfl, rfl, Or.inr (Or.inr (⟨h, j, hh, rfl, hhi_j, rfl, by rw [ek, if_neg (by rw [hb_38]; decide)], rfl⟩))⟩)
          · skip
            have hb_38 := bI_1 h_38
            refine q_iload_n F 1 dX10_as_41 rfl ?_
            refine q_goto F (tgt := 46) dX10_as_42 (by decide) ?_
            refine q_perm pf10 ?_
            refine q_perm pf10 ?_
            refine q_perm pf10 ?_
            refine q_perm pf10 ?_
            refine q_perm pf10 ?_
            refine q_perm pf10 ?_
            refine q_perm pf10 ?_
            refine q_perm pf10 ?_
            refine q_perm pf10 ?_
            refine q_perm pf10 ?_
            refine q_perm pf10 ?_
            exact q_iret F hr_ dX10_as_46 (hp_ _ _ ⟨nI h, ((T, n, pf, g, (sn, B, kp, km, ku), (sn1, B1, kp1, km1, ku1), (sn2, B2, kp2, km2, ku2), (rg, O, BO, P, M, U)) : gSt), rfl, rfl, Or.inr (Or.inr (⟨h, j, hh, rfl, hhi_j, rfl, by rw [ek, if_pos hb_38], rfl⟩))⟩)
        · skip
          rw [ek] at hm5_0
          have hm6 : (tA T h, (.inr (4, [.int (tP T h), .int (tL T h), .int (tE T h)]) : va_E)) ∈ tl := hm5_0
          refine q_callS F (As := [.ref (tA T h), .int (nI j)]) (rest := []) (c_X10_isSuch_4 l E (oC x (q 0) (t 0) (a 0) (k 0) (u 0) (r 0) g ++ (pC E q n pf ++ (tC E t T ++ (nC E a (t 0) sn B ++ (kC (a 1) kp km ku ++ (nC E k (t 0) sn1 B1 ++ (kC (k 1) kp1 km1 ku1 ++ (nC E u (t 0) sn2 B2 ++ (kC (u 1) kp2 km2 ku2 ++ (rC E r (t 0) kd rg O BO ++ (ksC kd P M U ++ tl))))))))))) (tA T h) (tP T h) (tL T h) (tE T h) (List.mem_append_right _ (List.mem_append_right _ (List.mem_append_right _ (List.mem_append_right _ (List.mem_append_right _ (List.mem_append_right _ (List.mem_append_right _ (List.mem_append_right _ (List.mem_append_right _ (List.mem_append_right _ (List.mem_append_right _ hm6))))))))))) j (by omega)) (List.Perm.refl _) gX10_as_X10_isSuch rfl rfl rfl hd_X10_isSuch ⟨by decide, by decide⟩ rfl (Nat.le_of_ble_eq_true rfl) dX10_as_35 ⟨Nat.le_of_ble_eq_true rfl, Nat.le_of_ble_eq_true rfl⟩ (fun v_ w_ hvw => ?_)
          rw [hvw.1, hvw.2]
          clear hvw
          refine q_at (pc' := 38) (st' := [.int (bI (isS 1 j))]) (ws' := oC x (q 0) (t 0) (a 0) (k 0) (u 0) (r 0) g ++ (pC E q n pf ++ (tC E t T ++ (nC E a (t 0) sn B ++ (kC (a 1) kp km ku ++ (nC E k (t 0) sn1 B1 ++ (kC (k 1) kp1 km1 ku1 ++ (nC E u (t 0) sn2 B2 ++ (kC (u 1) kp2 km2 ku2 ++ (rC E r (t 0) kd rg O BO ++ (ksC kd P M U ++ tl))))))))))) (k' := 0) (n' := 0) rfl rfl rfl rfl rfl ?_
          refine q_if_eq F (tgt := 45) dX10_as_38 (by decide) (fun h_38 => ?_) (fun h_38 => ?_)
          · skip
            have hb_38 := bI_0 h_38
            refine q_iconst F dX10_as_45 (v := (-1)) (by decide) ?_
            refine q_perm pf10 ?_
            refine q_perm pf10 ?_
            refine q_perm pf10 ?_
            refine q_perm pf10 ?_
            refine q_perm pf10 ?_
            refine q_perm pf10 ?_
            refine q_perm pf10 ?_
            refine q_perm pf10 ?_
            refine q_perm pf10 ?_
            refine q_perm pf10 ?_
            refine q_perm pf10 ?_
            exact q_iret F hr_ dX10_as_46 (hp_ _ _ ⟨(-1), ((T, n, pf, g, (sn, B, kp, km, ku), (sn1, B1, kp1, km1, ku1), (sn2, B2, kp2, km2, ku2), (rg, O, BO, P, M, U)) : gSt), rfl, rfl, Or.inr (Or.inr (⟨h, j, hh, rfl, hhi_j, rfl, by rw [ek, if_neg (by rw [hb_38]; decide)], rfl⟩))⟩)
          · skip
            have hb_38 := bI_1 h_38
            refine q_iload_n F 1 dX10_as_41 rfl ?_
            refine q_goto F (tgt := 46) dX10_as_42 (by decide) ?_
            refine q_perm pf10 ?_
            refine q_perm pf10 ?_
            refine q_perm pf10 ?_
            refine q_perm pf10 ?_
            refine q_perm pf10 ?_
            refine q_perm pf10 ?_
            refine q_perm pf10 ?_
            refine q_perm pf10 ?_
            refine q_perm pf10 ?_
            refine q_perm pf10 ?_
            refine q_perm pf10 ?_
            exact q_iret F hr_ dX10_as_46 (hp_ _ _ ⟨nI h, ((T, n, pf, g, (sn, B, kp, km, ku), (sn1, B1, kp1, km1, ku1), (sn2, B2, kp2, km2, ku2), (rg, O, BO, P, M, U)) : gSt), rfl, rfl, Or.inr (Or.inr (⟨h, j, hh, rfl, hhi_j, rfl, by rw [ek, if_pos hb_38], rfl⟩))⟩)
        · skip
          rw [ek] at hm5_0
          have hm6 : (tA T h, (.inr (1, [.int (tP T h), .int (tL T h), .int (tE T h)]) : va_E)) ∈ tl := hm5_0
          refine q_callS F (As := [.ref (tA T h), .int (nI j)]) (rest := []) (c_X10_isSuch_1 l E (oC x (q 0) (t 0) (a 0) (k 0) (u 0) (r 0) g ++ (pC E q n pf ++ (tC E t T ++ (nC E a (t 0) sn B ++ (kC (a 1) kp km ku ++ (nC E k (t 0) sn1 B1 ++ (kC (k 1) kp1 km1 ku1 ++ (nC E u (t 0) sn2 B2 ++ (kC (u 1) kp2 km2 ku2 ++ (rC E r (t 0) kd rg O BO ++ (ksC kd P M U ++ tl))))))))))) (tA T h) (tP T h) (tL T h) (tE T h) (List.mem_append_right _ (List.mem_append_right _ (List.mem_append_right _ (List.mem_append_right _ (List.mem_append_right _ (List.mem_append_right _ (List.mem_append_right _ (List.mem_append_right _ (List.mem_append_right _ (List.mem_append_right _ (List.mem_append_right _ hm6))))))))))) j (by omega)) (List.Perm.refl _) gX10_as_X10_isSuch rfl rfl rfl hd_X10_isSuch ⟨by decide, by decide⟩ rfl (Nat.le_of_ble_eq_true rfl) dX10_as_35 ⟨Nat.le_of_ble_eq_true rfl, Nat.le_of_ble_eq_true rfl⟩ (fun v_ w_ hvw => ?_)
          rw [hvw.1, hvw.2]
          clear hvw
          refine q_at (pc' := 38) (st' := [.int (bI (isS 2 j))]) (ws' := oC x (q 0) (t 0) (a 0) (k 0) (u 0) (r 0) g ++ (pC E q n pf ++ (tC E t T ++ (nC E a (t 0) sn B ++ (kC (a 1) kp km ku ++ (nC E k (t 0) sn1 B1 ++ (kC (k 1) kp1 km1 ku1 ++ (nC E u (t 0) sn2 B2 ++ (kC (u 1) kp2 km2 ku2 ++ (rC E r (t 0) kd rg O BO ++ (ksC kd P M U ++ tl))))))))))) (k' := 0) (n' := 0) rfl rfl rfl rfl rfl ?_
          refine q_if_eq F (tgt := 45) dX10_as_38 (by decide) (fun h_38 => ?_) (fun h_38 => ?_)
          · skip
            have hb_38 := bI_0 h_38
            refine q_iconst F dX10_as_45 (v := (-1)) (by decide) ?_
            refine q_perm pf10 ?_
            refine q_perm pf10 ?_
            refine q_perm pf10 ?_
            refine q_perm pf10 ?_
            refine q_perm pf10 ?_
            refine q_perm pf10 ?_
            refine q_perm pf10 ?_
            refine q_perm pf10 ?_
            refine q_perm pf10 ?_
            refine q_perm pf10 ?_
            refine q_perm pf10 ?_
            exact q_iret F hr_ dX10_as_46 (hp_ _ _ ⟨(-1), ((T, n, pf, g, (sn, B, kp, km, ku), (sn1, B1, kp1, km1, ku1), (sn2, B2, kp2, km2, ku2), (rg, O, BO, P, M, U)) : gSt), rfl, rfl, Or.inr (Or.inr (⟨h, j, hh, rfl, hhi_j, rfl, by rw [ek, if_neg (by rw [hb_38]; decide)], rfl⟩))⟩)
          · skip
            have hb_38 := bI_1 h_38
            refine q_iload_n F 1 dX10_as_41 rfl ?_
            refine q_goto F (tgt := 46) dX10_as_42 (by decide) ?_
            refine q_perm pf10 ?_
            refine q_perm pf10 ?_
            refine q_perm pf10 ?_
            refine q_perm pf10 ?_
            refine q_perm pf10 ?_
            refine q_perm pf10 ?_
            refine q_perm pf10 ?_
            refine q_perm pf10 ?_
            refine q_perm pf10 ?_
            refine q_perm pf10 ?_
            refine q_perm pf10 ?_
            exact q_iret F hr_ dX10_as_46 (hp_ _ _ ⟨nI h, ((T, n, pf, g, (sn, B, kp, km, ku), (sn1, B1, kp1, km1, ku1), (sn2, B2, kp2, km2, ku2), (rg, O, BO, P, M, U)) : gSt), rfl, rfl, Or.inr (Or.inr (⟨h, j, hh, rfl, hhi_j, rfl, by rw [ek, if_pos hb_38], rfl⟩))⟩)
        · skip
          rw [ek] at hm5_0
          have hm6 : (tA T h, (.inr (9, [.int (tP T h), .int (tL T h), .int (tE T h)]) : va_E)) ∈ tl := hm5_0
          refine q_callS F (As := [.ref (tA T h), .int (nI j)]) (rest := []) (c_X10_isSuch_9 l E (oC x (q 0) (t 0) (a 0) (k 0) (u 0) (r 0) g ++ (pC E q n pf ++ (tC E t T ++ (nC E a (t 0) sn B ++ (kC (a 1) kp km ku ++ (nC E k (t 0) sn1 B1 ++ (kC (k 1) kp1 km1 ku1 ++ (nC E u (t 0) sn2 B2 ++ (kC (u 1) kp2 km2 ku2 ++ (rC E r (t 0) kd rg O BO ++ (ksC kd P M U ++ tl))))))))))) (tA T h) (tP T h) (tL T h) (tE T h) (List.mem_append_right _ (List.mem_append_right _ (List.mem_append_right _ (List.mem_append_right _ (List.mem_append_right _ (List.mem_append_right _ (List.mem_append_right _ (List.mem_append_right _ (List.mem_append_right _ (List.mem_append_right _ (List.mem_append_right _ hm6))))))))))) j (by omega)) (List.Perm.refl _) gX10_as_X10_isSuch rfl rfl rfl hd_X10_isSuch ⟨by decide, by decide⟩ rfl (Nat.le_of_ble_eq_true rfl) dX10_as_35 ⟨Nat.le_of_ble_eq_true rfl, Nat.le_of_ble_eq_true rfl⟩ (fun v_ w_ hvw => ?_)
          rw [hvw.1, hvw.2]
          clear hvw
          refine q_at (pc' := 38) (st' := [.int (bI (isS 3 j))]) (ws' := oC x (q 0) (t 0) (a 0) (k 0) (u 0) (r 0) g ++ (pC E q n pf ++ (tC E t T ++ (nC E a (t 0) sn B ++ (kC (a 1) kp km ku ++ (nC E k (t 0) sn1 B1 ++ (kC (k 1) kp1 km1 ku1 ++ (nC E u (t 0) sn2 B2 ++ (kC (u 1) kp2 km2 ku2 ++ (rC E r (t 0) kd rg O BO ++ (ksC kd P M U ++ tl))))))))))) (k' := 0) (n' := 0) rfl rfl rfl rfl rfl ?_
          refine q_if_eq F (tgt := 45) dX10_as_38 (by decide) (fun h_38 => ?_) (fun h_38 => ?_)
          · skip
            have hb_38 := bI_0 h_38
            refine q_iconst F dX10_as_45 (v := (-1)) (by decide) ?_
            refine q_perm pf10 ?_
            refine q_perm pf10 ?_
            refine q_perm pf10 ?_
            refine q_perm pf10 ?_
            refine q_perm pf10 ?_
            refine q_perm pf10 ?_
            refine q_perm pf10 ?_
            refine q_perm pf10 ?_
            refine q_perm pf10 ?_
            refine q_perm pf10 ?_
            refine q_perm pf10 ?_
            exact q_iret F hr_ dX10_as_46 (hp_ _ _ ⟨(-1), ((T, n, pf, g, (sn, B, kp, km, ku), (sn1, B1, kp1, km1, ku1), (sn2, B2, kp2, km2, ku2), (rg, O, BO, P, M, U)) : gSt), rfl, rfl, Or.inr (Or.inr (⟨h, j, hh, rfl, hhi_j, rfl, by rw [ek, if_neg (by rw [hb_38]; decide)], rfl⟩))⟩)
          · skip
            have hb_38 := bI_1 h_38
            refine q_iload_n F 1 dX10_as_41 rfl ?_
            refine q_goto F (tgt := 46) dX10_as_42 (by decide) ?_
            refine q_perm pf10 ?_
            refine q_perm pf10 ?_
            refine q_perm pf10 ?_
            refine q_perm pf10 ?_
            refine q_perm pf10 ?_
            refine q_perm pf10 ?_
            refine q_perm pf10 ?_
            refine q_perm pf10 ?_
            refine q_perm pf10 ?_
            refine q_perm pf10 ?_
            refine q_perm pf10 ?_
            exact q_iret F hr_ dX10_as_46 (hp_ _ _ ⟨nI h, ((T, n, pf, g, (sn, B, kp, km, ku), (sn1, B1, kp1, km1, ku1), (sn2, B2, kp2, km2, ku2), (rg, O, BO, P, M, U)) : gSt), rfl, rfl, Or.inr (Or.inr (⟨h, j, hh, rfl, hhi_j, rfl, by rw [ek, if_pos hb_38], rfl⟩))⟩)
        · skip
          rw [ek] at hm5_0
          have hm6 : (tA T h, (.inr (3, [.int (tP T h), .int (tL T h), .int (tE T h)]) : va_E)) ∈ tl := hm5_0
          refine q_callS F (As := [.ref (tA T h), .int (nI j)]) (rest := []) (c_X10_isSuch_3 l E (oC x (q 0) (t 0) (a 0) (k 0) (u 0) (r 0) g ++ (pC E q n pf ++ (tC E t T ++ (nC E a (t 0) sn B ++ (kC (a 1) kp km ku ++ (nC E k (t 0) sn1 B1 ++ (kC (k 1) kp1 km1 ku1 ++ (nC E u (t 0) sn2 B2 ++ (kC (u 1) kp2 km2 ku2 ++ (rC E r (t 0) kd rg O BO ++ (ksC kd P M U ++ tl))))))))))) (tA T h) (tP T h) (tL T h) (tE T h) (List.mem_append_right _ (List.mem_append_right _ (List.mem_append_right _ (List.mem_append_right _ (List.mem_append_right _ (List.mem_append_right _ (List.mem_append_right _ (List.mem_append_right _ (List.mem_append_right _ (List.mem_append_right _ (List.mem_append_right _ hm6))))))))))) j (by omega)) (List.Perm.refl _) gX10_as_X10_isSuch rfl rfl rfl hd_X10_isSuch ⟨by decide, by decide⟩ rfl (Nat.le_of_ble_eq_true rfl) dX10_as_35 ⟨Nat.le_of_ble_eq_true rfl, Nat.le_of_ble_eq_true rfl⟩ (fun v_ w_ hvw => ?_)
          rw [hvw.1, hvw.2]
          clear hvw
          refine q_at (pc' := 38) (st' := [.int (bI (isS 4 j))]) (ws' := oC x (q 0) (t 0) (a 0) (k 0) (u 0) (r 0) g ++ (pC E q n pf ++ (tC E t T ++ (nC E a (t 0) sn B ++ (kC (a 1) kp km ku ++ (nC E k (t 0) sn1 B1 ++ (kC (k 1) kp1 km1 ku1 ++ (nC E u (t 0) sn2 B2 ++ (kC (u 1) kp2 km2 ku2 ++ (rC E r (t 0) kd rg O BO ++ (ksC kd P M U ++ tl))))))))))) (k' := 0) (n' := 0) rfl rfl rfl rfl rfl ?_
          refine q_if_eq F (tgt := 45) dX10_as_38 (by decide) (fun h_38 => ?_) (fun h_38 => ?_)
          · skip
            have hb_38 := bI_0 h_38
            refine q_iconst F dX10_as_45 (v := (-1)) (by decide) ?_
            refine q_perm pf10 ?_
            refine q_perm pf10 ?_
            refine q_perm pf10 ?_
            refine q_perm pf10 ?_
            refine q_perm pf10 ?_
            refine q_perm pf10 ?_
            refine q_perm pf10 ?_
            refine q_perm pf10 ?_
            refine q_perm pf10 ?_
            refine q_perm pf10 ?_
            refine q_perm pf10 ?_
            exact q_iret F hr_ dX10_as_46 (hp_ _ _ ⟨(-1), ((T, n, pf, g, (sn, B, kp, km, ku), (sn1, B1, kp1, km1, ku1), (sn2, B2, kp2, km2, ku2), (rg, O, BO, P, M, U)) : gSt), rfl, rfl, Or.inr (Or.inr (⟨h, j, hh, rfl, hhi_j, rfl, by rw [ek, if_neg (by rw [hb_38]; decide)], rfl⟩))⟩)
          · skip
            have hb_38 := bI_1 h_38
            refine q_iload_n F 1 dX10_as_41 rfl ?_
            refine q_goto F (tgt := 46) dX10_as_42 (by decide) ?_
            refine q_perm pf10 ?_
            refine q_perm pf10 ?_
            refine q_perm pf10 ?_
            refine q_perm pf10 ?_
            refine q_perm pf10 ?_
            refine q_perm pf10 ?_
            refine q_perm pf10 ?_
            refine q_perm pf10 ?_
            refine q_perm pf10 ?_
            refine q_perm pf10 ?_
            refine q_perm pf10 ?_
            exact q_iret F hr_ dX10_as_46 (hp_ _ _ ⟨nI h, ((T, n, pf, g, (sn, B, kp, km, ku), (sn1, B1, kp1, km1, ku1), (sn2, B2, kp2, km2, ku2), (rg, O, BO, P, M, U)) : gSt), rfl, rfl, Or.inr (Or.inr (⟨h, j, hh, rfl, hhi_j, rfl, by rw [ek, if_pos hb_38], rfl⟩))⟩)
      · skip
        have hz_20 := Int32.not_le.mp h_20
        refine q_bipush F dX10_as_23 (v := (-102)) (by decide) ?_
        refine q_perm pf10 ?_
        refine q_perm pf10 ?_
        refine q_perm pf10 ?_
        refine q_perm pf10 ?_
        refine q_perm pf10 ?_
        refine q_perm pf10 ?_
        refine q_perm pf10 ?_
        refine q_perm pf10 ?_
        refine q_perm pf10 ?_
        refine q_perm pf10 ?_
        refine q_perm pf10 ?_
        exact q_iret F hr_ dX10_as_25 (hp_ _ _ ⟨(-102), ((T, n, pf, g, (sn, B, kp, km, ku), (sn1, B1, kp1, km1, ku1), (sn2, B2, kp2, km2, ku2), (rg, O, BO, P, M, U)) : gSt), rfl, rfl, Or.inr (Or.inl (⟨hb_8, inI_hi hz_20, rfl, rfl⟩))⟩)
  · skip
    have hb_8 := bI_0 h_8
    refine q_bipush F dX10_as_11 (v := (-101)) (by decide) ?_
    refine q_perm pf10 ?_
    refine q_perm pf10 ?_
    refine q_perm pf10 ?_
    refine q_perm pf10 ?_
    refine q_perm pf10 ?_
    refine q_perm pf10 ?_
    refine q_perm pf10 ?_
    refine q_perm pf10 ?_
    refine q_perm pf10 ?_
    refine q_perm pf10 ?_
    refine q_perm pf10 ?_
    exact q_iret F hr_ dX10_as_13 (hp_ _ _ ⟨(-101), ((T, n, pf, g, (sn, B, kp, km, ku), (sn1, B1, kp1, km1, ku1), (sn2, B2, kp2, km2, ku2), (rg, O, BO, P, M, U)) : gSt), rfl, rfl, Or.inl (⟨by simpa using hb_8, rfl, rfl⟩)⟩)

set_option maxHeartbeats 2000000 in
set_option maxRecDepth 100000 in
theorem c_X10_shut (l : Launch) (E : gEnv) (x : Nat) (q t a k u r kd : Nat → Nat) (T : gTown) (g : Nat → Int32) (n : Nat) (pf : Nat → Int32) (sn : Int32) (B : Nat → Nat → Int32) (kp km ku : Int32) (sn1 : Int32) (B1 : Nat → Nat → Int32) (kp1 km1 ku1 : Int32) (sn2 : Int32) (B2 : Nat → Nat → Int32) (kp2 km2 ku2 : Int32) (rg O BO P M U : Nat → Int32) (tl : va_W) (hH : isHs T tl) (hn : tN T ≤ 6) (hq : n ≤ 30) (x1 x2 : Int32) : Cn l E yX10_shut wsX10_shut (rmL 2 0 0) [.ref x, .int x1, .int x2] (oC x (q 0) (t 0) (a 0) (k 0) (u 0) (r 0) g ++ (pC E q n pf ++ (tC E t T ++ (nC E a (t 0) sn B ++ (kC (a 1) kp km ku ++ (nC E k (t 0) sn1 B1 ++ (kC (k 1) kp1 km1 ku1 ++ (nC E u (t 0) sn2 B2 ++ (kC (u 1) kp2 km2 ku2 ++ (rC E r (t 0) kd rg O BO ++ (ksC kd P M U ++ tl))))))))))) 0 0 (fun v w => ∃ (y : Int32) (S' : gSt), v = some (.int y) ∧ w = xW E (x, q, t, a, k, u, r, kd) S' tl ∧ ((hsB (tN T) x1 = false ∧ y = (-101) ∧ S' = ((T, n, pf, g, (sn, B, kp, km, ku), (sn1, B1, kp1, km1, ku1), (sn2, B2, kp2, km2, ku2), (rg, O, BO, P, M, U)) : gSt)) ∨ (∃ (h : Nat), h < tN T ∧ x1 = nI h ∧ x2 = 0 ∧ y = bI (outB (B 2) h) ∧ S' = ((T, n, pf, g, (sn, va_up B 2 (upd (B 2) h (-1)), kp, km, ku), (sn1, B1, kp1, km1, ku1), (sn2, B2, kp2, km2, ku2), (rg, O, BO, P, M, U)) : gSt)) ∨ (∃ (h : Nat), h < tN T ∧ x1 = nI h ∧ ¬ x2 = 0 ∧ outB (B 2) h = true ∧ y = bI (outB (B 2) h) ∧ S' = ((T, n, pf, g, (sn, B, kp, km, ku), (sn1, B1, kp1, km1, ku1), (sn2, B2, kp2, km2, ku2), (rg, O, BO, P, M, U)) : gSt)) ∨ (∃ (h : Nat), h < tN T ∧ x1 = nI h ∧ ¬ x2 = 0 ∧ outB (B 2) h = false ∧ y = bI (outB (B 2) h) ∧ S' = ((T, n, pf, g, (sn, va_up B 2 (upd (B 2) h km), kp, km, ku), (sn1, B1, kp1, km1, ku1), (sn2, B2, kp2, km2, ku2), (rg, O, BO, P, M, U)) : gSt)))) := by
  refine Cn.of (own := RX10) (cc := cX10_shut) (maxL := 4) (ret := (some .int)) (lv := [(0, .ref x), (1, .int x1), (2, .int x2)]) (by decide) rfl rfl (Nat.le_of_ble_eq_true rfl) rfl ?_
  intro p_ e_ s_ m_ args_ below_ meth_ c_ A_ P_ hp_ F hr_ hnm_
  have hf21_10 : Cond.fieldLink RX10 21 "KeyOnStreet" (TX10 1).2.1 (TX10 1).2.2.1 ∈ wsX10_shut := by decide +kernel
  have hi10 : ∀ w ∈ u_ws RX10 TX10 11, w ∈ wsX10_shut := by decide +kernel
  have hd_X8_has : yX8_has.cls = RX8 ∧ yX8_has.cls ≠ "java/lang/invoke/MethodHandle" ∧ yX8_has.cls ≠ "java/lang/invoke/VarHandle" ∧ (parseMethodDescriptor yX8_has.desc).map (fun d => d.parameters.length) = some 1 := by decide +kernel
  have hf30_10 : Cond.fieldLink RX10 30 "KeyOnStreet" (TX10 2).2.1 (TX10 2).2.2.1 ∈ wsX10_shut := by decide +kernel
  have hd_X5_isOut : yX5_isOut.cls = RX5 ∧ yX5_isOut.cls ≠ "java/lang/invoke/MethodHandle" ∧ yX5_isOut.cls ≠ "java/lang/invoke/VarHandle" ∧ (parseMethodDescriptor yX5_isOut.desc).map (fun d => d.parameters.length) = some 1 := by decide +kernel
  have hf98_5 : Cond.fieldLink RX10 98 "KeyOnStreet$Night" (TX5 2).2.1 (TX5 2).2.2.1 ∈ wsX10_shut := by decide +kernel
  have hi5 : ∀ w ∈ u_ws RX5 TX5 10, w ∈ wsX10_shut := by decide +kernel
  have hf102_5 : Cond.fieldLink RX10 102 "KeyOnStreet$Night" (TX5 1).2.1 (TX5 1).2.2.1 ∈ wsX10_shut := by decide +kernel
  have hf106_2 : Cond.fieldLink RX10 106 "KeyOnStreet$Key" (TX2 1).2.1 (TX2 1).2.2.1 ∈ wsX10_shut := by decide +kernel
  have hi2 : ∀ w ∈ u_ws RX2 TX2 3, w ∈ wsX10_shut := by decide +kernel
  refine q_aload_n F 0 dX10_shut_0 rfl ?_
  refine q_get F (ci := 10) (j := 1) (v := .ref (t 0)) (List.mem_append_left _ (List.mem_of_getElem? (i := 0) rfl)) rfl hi10 (by decide) hf21_10 rfl rfl dX10_shut_1 ?_
  refine q_iload_n F 1 dX10_shut_4 rfl ?_
  refine q_callV F (ci := 8) (As := [.int x1]) (rest := []) (List.mem_append_right _ (List.mem_append_right _ (List.mem_append_left _ (List.mem_of_getElem? (i := 0) rfl)))) rfl (c_X8_has l E t T (oC x (q 0) (t 0) (a 0) (k 0) (u 0) (r 0) g ++ (pC E q n pf ++ (tC E t T ++ (nC E a (t 0) sn B ++ (kC (a 1) kp km ku ++ (nC E k (t 0) sn1 B1 ++ (kC (k 1) kp1 km1 ku1 ++ (nC E u (t 0) sn2 B2 ++ (kC (u 1) kp2 km2 ku2 ++ (rC E r (t 0) kd rg O BO ++ (ksC kd P M U ++ tl))))))))))) (isIn.r _ (isIn.r _ (isIn.l _ _))) x1) (List.Perm.refl _) gX10_shut_X8_has rfl rfl rfl hd_X8_has ⟨by decide, by decide⟩ rfl (Nat.le_of_ble_eq_true rfl) dX10_shut_5 ⟨Nat.le_of_ble_eq_true rfl, Nat.le_of_ble_eq_true rfl⟩ (fun v_ w_ hvw => ?_)
  rw [hvw.1, hvw.2]
  clear hvw
  refine q_at (pc' := 8) (st' := [.int (bI (hsB (tN T) x1))]) (ws' := oC x (q 0) (t 0) (a 0) (k 0) (u 0) (r 0) g ++ (pC E q n pf ++ (tC E t T ++ (nC E a (t 0) sn B ++ (kC (a 1) kp km ku ++ (nC E k (t 0) sn1 B1 ++ (kC (k 1) kp1 km1 ku1 ++ (nC E u (t 0) sn2 B2 ++ (kC (u 1) kp2 km2 ku2 ++ (rC E r (t 0) kd rg O BO ++ (ksC kd P M U ++ tl))))))))))) (k' := 0) (n' := 0) rfl rfl rfl rfl rfl ?_
  refine q_if_ne F (tgt := 14) dX10_shut_8 (by decide) (fun h_8 => ?_) (fun h_8 => ?_)
  · skip
    have hb_8 := bI_1 h_8
    obtain ⟨h, hh, rfl⟩ := hsB_of hn hb_8
    refine q_aload_n F 0 dX10_shut_14 rfl ?_
    refine q_get F (ci := 10) (j := 2) (v := .ref (a 0)) (List.mem_append_left _ (List.mem_of_getElem? (i := 0) rfl)) rfl hi10 (by decide) hf30_10 rfl rfl dX10_shut_15 ?_
    refine q_iload_n F 1 dX10_shut_18 rfl ?_
    refine q_callV F (ci := 5) (As := [.int (nI h)]) (rest := []) (List.mem_append_right _ (List.mem_append_right _ (List.mem_append_right _ (List.mem_append_left _ (List.mem_of_getElem? (i := 0) rfl))))) rfl (c_X5_isOut l E a t T sn B kp km ku (oC x (q 0) (t 0) (a 0) (k 0) (u 0) (r 0) g ++ (pC E q n pf ++ (tC E t T ++ (nC E a (t 0) sn B ++ (kC (a 1) kp km ku ++ (nC E k (t 0) sn1 B1 ++ (kC (k 1) kp1 km1 ku1 ++ (nC E u (t 0) sn2 B2 ++ (kC (u 1) kp2 km2 ku2 ++ (rC E r (t 0) kd rg O BO ++ (ksC kd P M U ++ tl))))))))))) (isIn.r _ (isIn.r _ (isIn.r _ (isIn.l _ _)))) (isIn.r _ (isIn.r _ (isIn.r _ (isIn.r _ (isIn.l _ _))))) (isIn.r _ (isIn.r _ (isIn.l _ _))) (isHs.r _ (isHs.r _ (isHs.r _ (isHs.r _ (isHs.r _ (isHs.r _ (isHs.r _ (isHs.r _ (isHs.r _ (isHs.r _ (isHs.r _ hH))))))))))) hn h (by omega)) (List.Perm.refl _) gX10_shut_X5_isOut rfl rfl rfl hd_X5_isOut ⟨by decide, by decide⟩ rfl (Nat.le_of_ble_eq_true rfl) dX10_shut_19 ⟨Nat.le_of_ble_eq_true rfl, Nat.le_of_ble_eq_true rfl⟩ (fun v_ w_ hvw => ?_)
    rw [hvw.1, hvw.2]
    clear hvw
    refine q_at (pc' := 22) (st' := [.int (bI (outB (B 2) h))]) (ws' := oC x (q 0) (t 0) (a 0) (k 0) (u 0) (r 0) g ++ (pC E q n pf ++ (tC E t T ++ (nC E a (t 0) sn B ++ (kC (a 1) kp km ku ++ (nC E k (t 0) sn1 B1 ++ (kC (k 1) kp1 km1 ku1 ++ (nC E u (t 0) sn2 B2 ++ (kC (u 1) kp2 km2 ku2 ++ (rC E r (t 0) kd rg O BO ++ (ksC kd P M U ++ tl))))))))))) (k' := 0) (n' := 0) rfl rfl rfl rfl rfl ?_
    refine q_istore_n F (lv' := [(3, .int (bI (outB (B 2) h))), (0, .ref x), (1, .int (nI h)), (2, .int x2)]) dX10_shut_22 (by decide) rfl ?_
    refine q_iload_n F 3 dX10_shut_23 rfl ?_
    refine q_if_ne F (tgt := 40) dX10_shut_24 (by decide) (fun h_24 => ?_) (fun h_24 => ?_)
    · skip
      refine q_iload_n F 0 dX10_shut_40 rfl ?_
      refine q_if_ne F (tgt := 63) dX10_shut_41 (by decide) (fun h_41 => ?_) (fun h_41 => ?_)
      · skip
        have hb_41 := bI_1 h_41
        refine q_iload_n F 0 dX10_shut_63 rfl ?_
        refine q_if_eq F (tgt := 71) dX10_shut_64 (by decide) (fun h_64 => ?_) (fun h_64 => ?_)
        · skip
          have hb_64 := bI_0 h_64
          exact absurd (hb_41.symm.trans hb_64) (by decide)
        · skip
          have hb_64 := bI_1 h_64
          refine q_iconst F dX10_shut_67 (v := nI 1) (by decide) ?_
          refine q_goto F (tgt := 72) dX10_shut_68 (by decide) ?_
          refine q_perm pf10 ?_
          refine q_perm pf10 ?_
          refine q_perm pf10 ?_
          refine q_perm pf10 ?_
          refine q_perm pf10 ?_
          refine q_perm pf10 ?_
          refine q_perm pf10 ?_
          refine q_perm pf10 ?_
          refine q_perm pf10 ?_
          refine q_perm pf10 ?_
          refine q_perm pf10 ?_
          exact q_iret F hr_ dX10_shut_72 (hp_ _ _ ⟨nI 1, ((T, n, pf, g, (sn, B, kp, km, ku), (sn1, B1, kp1, km1, ku1), (sn2, B2, kp2, km2, ku2), (rg, O, BO, P, M, U)) : gSt), rfl, rfl, Or.inr (Or.inr (Or.inl (⟨h, hh, rfl, h_24, hb_41, by rw [hb_64]; rfl, rfl⟩)))⟩)
      · skip
        have hb_41 := bI_0 h_41
        refine q_aload_n F 1 dX10_shut_44 rfl ?_
        refine q_get F (ci := 10) (j := 2) (v := .ref (a 0)) (List.mem_append_left _ (List.mem_of_getElem? (i := 0) rfl)) rfl hi10 (by decide) hf30_10 rfl rfl dX10_shut_45 ?_
        refine q_get F (ci := 5) (j := 2) (v := .ref (a 2)) (List.mem_append_right _ (List.mem_append_right _ (List.mem_append_right _ (List.mem_append_left _ (List.mem_of_getElem? (i := 0) rfl))))) rfl hi5 (by decide) hf98_5 rfl rfl dX10_shut_48 ?_
        refine q_iload_n F 2 dX10_shut_51 rfl ?_
        refine q_aload_n F 1 dX10_shut_52 rfl ?_
        refine q_get F (ci := 10) (j := 2) (v := .ref (a 0)) (List.mem_append_left _ (List.mem_of_getElem? (i := 0) rfl)) rfl hi10 (by decide) hf30_10 rfl rfl dX10_shut_53 ?_
        refine q_get F (ci := 5) (j := 1) (v := .ref (a 1)) (List.mem_append_right _ (List.mem_append_right _ (List.mem_append_right _ (List.mem_append_left _ (List.mem_of_getElem? (i := 0) rfl))))) rfl hi5 (by decide) hf102_5 rfl rfl dX10_shut_56 ?_
        refine q_get F (ci := 2) (j := 1) (v := .int km) (List.mem_append_right _ (List.mem_append_right _ (List.mem_append_right _ (List.mem_append_right _ (List.mem_append_left _ (List.mem_of_getElem? (i := 0) rfl)))))) rfl hi2 (by decide) hf106_2 rfl rfl dX10_shut_59 ?_
        refine q_perm pf3 ?_
        refine q_iast F 1 rfl h rfl (by omega) (by decide) dX10_shut_62 (ws' := nC E a (t 0) sn (va_up B 2 (upd (B 2) h km)) ++ (oC x (q 0) (t 0) (a 0) (k 0) (u 0) (r 0) g ++ (pC E q n pf ++ (tC E t T ++ (kC (a 1) kp km ku ++ (nC E k (t 0) sn1 B1 ++ (kC (k 1) kp1 km1 ku1 ++ (nC E u (t 0) sn2 B2 ++ (kC (u 1) kp2 km2 ku2 ++ (rC E r (t 0) kd rg O BO ++ (ksC kd P M U ++ tl))))))))))) rfl ?_
        refine q_iload_n F 0 dX10_shut_63 rfl ?_
        refine q_if_eq F (tgt := 71) dX10_shut_64 (by decide) (fun h_64 => ?_) (fun h_64 => ?_)
        · skip
          have hb_64 := bI_0 h_64
          refine q_iconst F dX10_shut_71 (v := nI 0) (by decide) ?_
          refine q_perm pf10 ?_
          refine q_perm pf10 ?_
          refine q_perm pf10 ?_
          refine q_perm pf10 ?_
          refine q_perm pf10 ?_
          refine q_perm pf10 ?_
          refine q_perm pf10 ?_
          refine q_perm pf7 ?_
          refine q_perm pf10 ?_
          refine q_perm pf10 ?_
          refine q_perm pf10 ?_
          exact q_iret F hr_ dX10_shut_72 (hp_ _ _ ⟨nI 0, ((T, n, pf, g, (sn, va_up B 2 (upd (B 2) h km), kp, km, ku), (sn1, B1, kp1, km1, ku1), (sn2, B2, kp2, km2, ku2), (rg, O, BO, P, M, U)) : gSt), rfl, rfl, Or.inr (Or.inr (Or.inr (⟨h, hh, rfl, h_24, hb_41, by rw [hb_64]; rfl, rfl⟩)))⟩)
        · skip
          have hb_64 := bI_1 h_64
          exact absurd (hb_41.symm.trans hb_64) (by decide)
    · skip
      refine q_aload_n F 1 dX10_shut_27 rfl ?_
      refine q_get F (ci := 10) (j := 2) (v := .ref (a 0)) (List.mem_append_left _ (List.mem_of_getElem? (i := 0) rfl)) rfl hi10 (by decide) hf30_10 rfl rfl dX10_shut_28 ?_
      refine q_get F (ci := 5) (j := 2) (v := .ref (a 2)) (List.mem_append_right _ (List.mem_append_right _ (List.mem_append_right _ (List.mem_append_left _ (List.mem_of_getElem? (i := 0) rfl))))) rfl hi5 (by decide) hf98_5 rfl rfl dX10_shut_31 ?_
      refine q_iload_n F 2 dX10_shut_34 rfl ?_
      refine q_iconst F dX10_shut_35 (v := (-1)) (by decide) ?_
      refine q_perm pf3 ?_
      refine q_iast F 1 rfl h rfl (by omega) (by decide) dX10_shut_36 (ws' := nC E a (t 0) sn (va_up B 2 (upd (B 2) h (-1))) ++ (oC x (q 0) (t 0) (a 0) (k 0) (u 0) (r 0) g ++ (pC E q n pf ++ (tC E t T ++ (kC (a 1) kp km ku ++ (nC E k (t 0) sn1 B1 ++ (kC (k 1) kp1 km1 ku1 ++ (nC E u (t 0) sn2 B2 ++ (kC (u 1) kp2 km2 ku2 ++ (rC E r (t 0) kd rg O BO ++ (ksC kd P M U ++ tl))))))))))) rfl ?_
      refine q_goto F (tgt := 63) dX10_shut_37 (by decide) ?_
      refine q_iload_n F 0 dX10_shut_63 rfl ?_
      refine q_if_eq F (tgt := 71) dX10_shut_64 (by decide) (fun h_64 => ?_) (fun h_64 => ?_)
      · skip
        have hb_64 := bI_0 h_64
        refine q_iconst F dX10_shut_71 (v := nI 0) (by decide) ?_
        refine q_perm pf10 ?_
        refine q_perm pf10 ?_
        refine q_perm pf10 ?_
        refine q_perm pf10 ?_
        refine q_perm pf10 ?_
        refine q_perm pf10 ?_
        refine q_perm pf10 ?_
        refine q_perm pf7 ?_
        refine q_perm pf10 ?_
        refine q_perm pf10 ?_
        refine q_perm pf10 ?_
        exact q_iret F hr_ dX10_shut_72 (hp_ _ _ ⟨nI 0, ((T, n, pf, g, (sn, va_up B 2 (upd (B 2) h (-1)), kp, km, ku), (sn1, B1, kp1, km1, ku1), (sn2, B2, kp2, km2, ku2), (rg, O, BO, P, M, U)) : gSt), rfl, rfl, Or.inr (Or.inl (⟨h, hh, rfl, h_24, by rw [hb_64]; rfl, rfl⟩))⟩)
      · skip
        have hb_64 := bI_1 h_64
        refine q_iconst F dX10_shut_67 (v := nI 1) (by decide) ?_
        refine q_goto F (tgt := 72) dX10_shut_68 (by decide) ?_
        refine q_perm pf10 ?_
        refine q_perm pf10 ?_
        refine q_perm pf10 ?_
        refine q_perm pf10 ?_
        refine q_perm pf10 ?_
        refine q_perm pf10 ?_
        refine q_perm pf10 ?_
        refine q_perm pf7 ?_
        refine q_perm pf10 ?_
        refine q_perm pf10 ?_
        refine q_perm pf10 ?_
        exact q_iret F hr_ dX10_shut_72 (hp_ _ _ ⟨nI 1, ((T, n, pf, g, (sn, va_up B 2 (upd (B 2) h (-1)), kp, km, ku), (sn1, B1, kp1, km1, ku1), (sn2, B2, kp2, km2, ku2), (rg, O, BO, P, M, U)) : gSt), rfl, rfl, Or.inr (Or.inl (⟨h, hh, rfl, h_24, by rw [hb_64]; rfl, rfl⟩))⟩)
  · skip
    have hb_8 := bI_0 h_8
    refine q_bipush F dX10_shut_11 (v := (-101)) (by decide) ?_
    refine q_perm pf10 ?_
    refine q_perm pf10 ?_
    refine q_perm pf10 ?_
    refine q_perm pf10 ?_
    refine q_perm pf10 ?_
    refine q_perm pf10 ?_
    refine q_perm pf10 ?_
    refine q_perm pf10 ?_
    refine q_perm pf10 ?_
    refine q_perm pf10 ?_
    refine q_perm pf10 ?_
    exact q_iret F hr_ dX10_shut_13 (hp_ _ _ ⟨(-101), ((T, n, pf, g, (sn, B, kp, km, ku), (sn1, B1, kp1, km1, ku1), (sn2, B2, kp2, km2, ku2), (rg, O, BO, P, M, U)) : gSt), rfl, rfl, Or.inl (⟨by simpa using hb_8, rfl, rfl⟩)⟩)

set_option maxHeartbeats 2000000 in
set_option maxRecDepth 100000 in
theorem c_X10_lay (l : Launch) (E : gEnv) (x : Nat) (q t a k u r kd : Nat → Nat) (T : gTown) (g : Nat → Int32) (n : Nat) (pf : Nat → Int32) (sn : Int32) (B : Nat → Nat → Int32) (kp km ku : Int32) (sn1 : Int32) (B1 : Nat → Nat → Int32) (kp1 km1 ku1 : Int32) (sn2 : Int32) (B2 : Nat → Nat → Int32) (kp2 km2 ku2 : Int32) (rg O BO P M U : Nat → Int32) (tl : va_W) (hH : isHs T tl) (hn : tN T ≤ 6) (hq : n ≤ 30) (x1 : Int32) : Cn l E yX10_lay wsX10_lay (rmL 1 0 0) [.ref x, .int x1] (oC x (q 0) (t 0) (a 0) (k 0) (u 0) (r 0) g ++ (pC E q n pf ++ (tC E t T ++ (nC E a (t 0) sn B ++ (kC (a 1) kp km ku ++ (nC E k (t 0) sn1 B1 ++ (kC (k 1) kp1 km1 ku1 ++ (nC E u (t 0) sn2 B2 ++ (kC (u 1) kp2 km2 ku2 ++ (rC E r (t 0) kd rg O BO ++ (ksC kd P M U ++ tl))))))))))) 0 0 (fun v w => ∃ (y : Int32) (S' : gSt), v = some (.int y) ∧ w = xW E (x, q, t, a, k, u, r, kd) S' tl ∧ ((inI x1 (nI 0) (nI 9) = false ∧ y = (-102) ∧ S' = ((T, n, pf, g, (sn, B, kp, km, ku), (sn1, B1, kp1, km1, ku1), (sn2, B2, kp2, km2, ku2), (rg, O, BO, P, M, U)) : gSt)) ∨ (inI x1 (nI 0) (nI 9) = true ∧ tN T = 0 ∧ y = (-103) ∧ S' = ((T, n, pf, g, (sn, B, kp, km, ku), (sn1, B1, kp1, km1, ku1), (sn2, B2, kp2, km2, ku2), (rg, O, BO, P, M, U)) : gSt)) ∨ (inI x1 (nI 0) (nI 9) = true ∧ ¬ tN T = 0 ∧ y = kp ∧ S' = ((T, n, pf, g, (sn, B, x1, km, nI 0), (sn1, B1, kp1, km1, ku1), (sn2, B2, kp2, km2, ku2), (rg, O, BO, P, M, U)) : gSt)))) := by
  refine Cn.of (own := RX10) (cc := cX10_lay) (maxL := 3) (ret := (some .int)) (lv := [(0, .ref x), (1, .int x1)]) (by decide) rfl rfl (Nat.le_of_ble_eq_true rfl) rfl ?_
  intro p_ e_ s_ m_ args_ below_ meth_ c_ A_ P_ hp_ F hr_ hnm_
  have hd_X10_hasTown : yX10_hasTown.cls = RX10 ∧ yX10_hasTown.cls ≠ "java/lang/invoke/MethodHandle" ∧ yX10_hasTown.cls ≠ "java/lang/invoke/VarHandle" ∧ (parseMethodDescriptor yX10_hasTown.desc).map (fun d => d.parameters.length) = some 0 := by decide +kernel
  have hf30_10 : Cond.fieldLink RX10 30 "KeyOnStreet" (TX10 2).2.1 (TX10 2).2.2.1 ∈ wsX10_lay := by decide +kernel
  have hi10 : ∀ w ∈ u_ws RX10 TX10 11, w ∈ wsX10_lay := by decide +kernel
  have hf102_5 : Cond.fieldLink RX10 102 "KeyOnStreet$Night" (TX5 1).2.1 (TX5 1).2.2.1 ∈ wsX10_lay := by decide +kernel
  have hi5 : ∀ w ∈ u_ws RX5 TX5 10, w ∈ wsX10_lay := by decide +kernel
  have hf114_2 : Cond.fieldLink RX10 114 "KeyOnStreet$Key" (TX2 0).2.1 (TX2 0).2.2.1 ∈ wsX10_lay := by decide +kernel
  have hi2 : ∀ w ∈ u_ws RX2 TX2 3, w ∈ wsX10_lay := by decide +kernel
  have hf106_2 : Cond.fieldLink RX10 106 "KeyOnStreet$Key" (TX2 1).2.1 (TX2 1).2.2.1 ∈ wsX10_lay := by decide +kernel
  have hd_X2_put : yX2_put.cls = RX2 ∧ yX2_put.cls ≠ "java/lang/invoke/MethodHandle" ∧ yX2_put.cls ≠ "java/lang/invoke/VarHandle" ∧ (parseMethodDescriptor yX2_put.desc).map (fun d => d.parameters.length) = some 3 := by decide +kernel
  refine q_iload_n F 1 dX10_lay_0 rfl ?_
  refine q_if_lt F (tgt := 10) dX10_lay_1 (by decide) (fun h_1 => ?_) (fun h_1 => ?_)
  · skip
    have hz_1 := Int32.not_le.mpr h_1
    refine q_bipush F dX10_lay_10 (v := (-102)) (by decide) ?_
    refine q_perm pf10 ?_
    refine q_perm pf10 ?_
    refine q_perm pf10 ?_
    refine q_perm pf10 ?_
    refine q_perm pf10 ?_
    refine q_perm pf10 ?_
    refine q_perm pf10 ?_
    refine q_perm pf10 ?_
    refine q_perm pf10 ?_
    refine q_perm pf10 ?_
    refine q_perm pf10 ?_
    exact q_iret F hr_ dX10_lay_12 (hp_ _ _ ⟨(-102), ((T, n, pf, g, (sn, B, kp, km, ku), (sn1, B1, kp1, km1, ku1), (sn2, B2, kp2, km2, ku2), (rg, O, BO, P, M, U)) : gSt), rfl, rfl, Or.inl (⟨inI_lo h_1, rfl, rfl⟩)⟩)
  · skip
    have hz_1 := Int32.not_lt.mp h_1
    refine q_iload_n F 1 dX10_lay_4 rfl ?_
    refine q_bipush F dX10_lay_5 (v := nI 10) (by decide) ?_
    refine q_icmp_lt F (tgt := 13) dX10_lay_7 (by decide) (fun h_7 => ?_) (fun h_7 => ?_)
    · skip
      have hz_7 := Int32.not_le.mpr h_7
      refine q_aload_n F 0 dX10_lay_13 rfl ?_
      refine q_perm pf10 ?_
      refine q_perm pf10 ?_
      refine q_perm pf10 ?_
      refine q_perm pf10 ?_
      refine q_perm pf10 ?_
      refine q_perm pf10 ?_
      refine q_perm pf10 ?_
      refine q_perm pf10 ?_
      refine q_perm pf10 ?_
      refine q_perm pf10 ?_
      refine q_perm pf10 ?_
      refine q_callV F (ci := 10) (As := []) (rest := []) (List.mem_append_left _ (List.mem_of_getElem? (i := 0) rfl)) rfl (c_X10_hasTown l E x q t a k u r kd T g n pf sn B kp km ku sn1 B1 kp1 km1 ku1 sn2 B2 kp2 km2 ku2 rg O BO P M U tl hH hn hq ) (List.Perm.refl _) gX10_lay_X10_hasTown rfl rfl rfl hd_X10_hasTown ⟨by decide, by decide⟩ rfl (Nat.le_of_ble_eq_true rfl) dX10_lay_14 ⟨Nat.le_of_ble_eq_true rfl, Nat.le_of_ble_eq_true rfl⟩ (fun v_ w_ hvw => ?_)
      rw [hvw.1, hvw.2]
      clear hvw
      refine q_at (pc' := 17) (st' := [.int (bI (decide (¬ tN T = 0)))]) (ws' := oC x (q 0) (t 0) (a 0) (k 0) (u 0) (r 0) g ++ (pC E q n pf ++ (tC E t T ++ (nC E a (t 0) sn B ++ (kC (a 1) kp km ku ++ (nC E k (t 0) sn1 B1 ++ (kC (k 1) kp1 km1 ku1 ++ (nC E u (t 0) sn2 B2 ++ (kC (u 1) kp2 km2 ku2 ++ (rC E r (t 0) kd rg O BO ++ (ksC kd P M U ++ tl))))))))))) (k' := 0) (n' := 0) rfl rfl rfl rfl rfl ?_
      refine q_if_ne F (tgt := 23) dX10_lay_17 (by decide) (fun h_17 => ?_) (fun h_17 => ?_)
      · skip
        have hb_17 := bI_1 h_17
        refine q_aload_n F 0 dX10_lay_23 rfl ?_
        refine q_get F (ci := 10) (j := 2) (v := .ref (a 0)) (List.mem_append_left _ (List.mem_of_getElem? (i := 0) rfl)) rfl hi10 (by decide) hf30_10 rfl rfl dX10_lay_24 ?_
        refine q_get F (ci := 5) (j := 1) (v := .ref (a 1)) (List.mem_append_right _ (List.mem_append_right _ (List.mem_append_right _ (List.mem_append_left _ (List.mem_of_getElem? (i := 0) rfl))))) rfl hi5 (by decide) hf102_5 rfl rfl dX10_lay_27 ?_
        refine q_get F (ci := 2) (j := 0) (v := .int kp) (List.mem_append_right _ (List.mem_append_right _ (List.mem_append_right _ (List.mem_append_right _ (List.mem_append_left _ (List.mem_of_getElem? (i := 0) rfl)))))) rfl hi2 (by decide) hf114_2 rfl rfl dX10_lay_30 ?_
        refine q_istore_n F (lv' := [(2, .int kp), (0, .ref x), (1, .int x1)]) dX10_lay_33 (by decide) rfl ?_
        refine q_aload_n F 1 dX10_lay_34 rfl ?_
        refine q_get F (ci := 10) (j := 2) (v := .ref (a 0)) (List.mem_append_left _ (List.mem_of_getElem? (i := 0) rfl)) rfl hi10 (by decide) hf30_10 rfl rfl dX10_lay_35 ?_
        refine q_get F (ci := 5) (j := 1) (v := .ref (a 1)) (List.mem_append_right _ (List.mem_append_right _ (List.mem_append_right _ (List.mem_append_left _ (List.mem_of_getElem? (i := 0) rfl))))) rfl hi5 (by decide) hf102_5 rfl rfl dX10_lay_38 ?_
        refine q_iload_n F 2 dX10_lay_41 rfl ?_
        refine q_aload_n F 1 dX10_lay_42 rfl ?_
        refine q_get F (ci := 10) (j := 2) (v := .ref (a 0)) (List.mem_append_left _ (List.mem_of_getElem? (i := 0) rfl)) rfl hi10 (by decide) hf30_10 rfl rfl dX10_lay_43 ?_
        refine q_get F (ci := 5) (j := 1) (v := .ref (a 1)) (List.mem_append_right _ (List.mem_append_right _ (List.mem_append_right _ (List.mem_append_left _ (List.mem_of_getElem? (i := 0) rfl))))) rfl hi5 (by decide) hf102_5 rfl rfl dX10_lay_46 ?_
        refine q_get F (ci := 2) (j := 1) (v := .int km) (List.mem_append_right _ (List.mem_append_right _ (List.mem_append_right _ (List.mem_append_right _ (List.mem_append_left _ (List.mem_of_getElem? (i := 0) rfl)))))) rfl hi2 (by decide) hf106_2 rfl rfl dX10_lay_49 ?_
        refine q_iconst F dX10_lay_52 (v := nI 0) (by decide) ?_
        refine q_perm pf4 ?_
        refine q_callV F (ci := 2) (As := [.int x1, .int km, .int (nI 0)]) (rest := []) (List.mem_append_left _ (List.mem_of_getElem? (i := 0) rfl)) rfl (c_X2_put l E (a 1) kp km ku x1 km (nI 0) _) (List.Perm.refl _) gX10_lay_X2_put rfl rfl rfl hd_X2_put ⟨by decide, by decide⟩ rfl (Nat.le_of_ble_eq_true rfl) dX10_lay_53 ⟨Nat.le_of_ble_eq_true rfl, Nat.le_of_ble_eq_true rfl⟩ (fun v_ w_ hvw => ?_)
        rw [hvw.1, hvw.2]
        clear hvw
        refine q_at (pc' := 56) (st' := []) (ws' := kC (a 1) x1 km (nI 0) ++ (oC x (q 0) (t 0) (a 0) (k 0) (u 0) (r 0) g ++ (pC E q n pf ++ (tC E t T ++ (nC E a (t 0) sn B ++ (nC E k (t 0) sn1 B1 ++ (kC (k 1) kp1 km1 ku1 ++ (nC E u (t 0) sn2 B2 ++ (kC (u 1) kp2 km2 ku2 ++ (rC E r (t 0) kd rg O BO ++ (ksC kd P M U ++ tl))))))))))) (k' := 0) (n' := 0) rfl rfl rfl rfl rfl ?_
        refine q_iload_n F 0 dX10_lay_56 rfl ?_
        refine q_perm pf10 ?_
        refine q_perm pf10 ?_
        refine q_perm pf10 ?_
        refine q_perm pf10 ?_
        refine q_perm pf10 ?_
        refine q_perm pf10 ?_
        refine q_perm pf6 ?_
        refine q_perm pf10 ?_
        refine q_perm pf10 ?_
        refine q_perm pf10 ?_
        refine q_perm pf10 ?_
        exact q_iret F hr_ dX10_lay_57 (hp_ _ _ ⟨kp, ((T, n, pf, g, (sn, B, x1, km, nI 0), (sn1, B1, kp1, km1, ku1), (sn2, B2, kp2, km2, ku2), (rg, O, BO, P, M, U)) : gSt), rfl, rfl, Or.inr (Or.inr (⟨inI_t (lo := nI 0) h_1 (lt10 h_7), (by simpa using hb_17), rfl, rfl⟩))⟩)
      · skip
        have hb_17 := bI_0 h_17
        refine q_bipush F dX10_lay_20 (v := (-103)) (by decide) ?_
        refine q_perm pf10 ?_
        refine q_perm pf10 ?_
        refine q_perm pf10 ?_
        refine q_perm pf10 ?_
        refine q_perm pf10 ?_
        refine q_perm pf10 ?_
        refine q_perm pf10 ?_
        refine q_perm pf10 ?_
        refine q_perm pf10 ?_
        refine q_perm pf10 ?_
        refine q_perm pf10 ?_
        exact q_iret F hr_ dX10_lay_22 (hp_ _ _ ⟨(-103), ((T, n, pf, g, (sn, B, kp, km, ku), (sn1, B1, kp1, km1, ku1), (sn2, B2, kp2, km2, ku2), (rg, O, BO, P, M, U)) : gSt), rfl, rfl, Or.inr (Or.inl (⟨inI_t (lo := nI 0) h_1 (lt10 h_7), (by simpa using hb_17), rfl, rfl⟩))⟩)
    · skip
      have hz_7 := Int32.not_lt.mp h_7
      refine q_bipush F dX10_lay_10 (v := (-102)) (by decide) ?_
      refine q_perm pf10 ?_
      refine q_perm pf10 ?_
      refine q_perm pf10 ?_
      refine q_perm pf10 ?_
      refine q_perm pf10 ?_
      refine q_perm pf10 ?_
      refine q_perm pf10 ?_
      refine q_perm pf10 ?_
      refine q_perm pf10 ?_
      refine q_perm pf10 ?_
      refine q_perm pf10 ?_
      exact q_iret F hr_ dX10_lay_12 (hp_ _ _ ⟨(-102), ((T, n, pf, g, (sn, B, kp, km, ku), (sn1, B1, kp1, km1, ku1), (sn2, B2, kp2, km2, ku2), (rg, O, BO, P, M, U)) : gSt), rfl, rfl, Or.inl (⟨inI_hi (ge10 h_7), rfl, rfl⟩)⟩)

set_option maxHeartbeats 2000000 in
set_option maxRecDepth 100000 in
theorem c_X10_pass (l : Launch) (E : gEnv) (x : Nat) (q t a k u r kd : Nat → Nat) (T : gTown) (g : Nat → Int32) (n : Nat) (pf : Nat → Int32) (sn : Int32) (B : Nat → Nat → Int32) (kp km ku : Int32) (sn1 : Int32) (B1 : Nat → Nat → Int32) (kp1 km1 ku1 : Int32) (sn2 : Int32) (B2 : Nat → Nat → Int32) (kp2 km2 ku2 : Int32) (rg O BO P M U : Nat → Int32) (tl : va_W) (hH : isHs T tl) (hn : tN T ≤ 6) (hq : n ≤ 30) (x1 : Int32) : Cn l E yX10_pass wsX10_pass (rmL 1 0 0) [.ref x, .int x1] (oC x (q 0) (t 0) (a 0) (k 0) (u 0) (r 0) g ++ (pC E q n pf ++ (tC E t T ++ (nC E a (t 0) sn B ++ (kC (a 1) kp km ku ++ (nC E k (t 0) sn1 B1 ++ (kC (k 1) kp1 km1 ku1 ++ (nC E u (t 0) sn2 B2 ++ (kC (u 1) kp2 km2 ku2 ++ (rC E r (t 0) kd rg O BO ++ (ksC kd P M U ++ tl))))))))))) 0 0 (fun v w => ∃ (y : Int32) (S' : gSt), v = some (.int y) ∧ w = xW E (x, q, t, a, k, u, r, kd) S' tl ∧ ((inI x1 (nI 1) (nI 30) = false ∧ y = (-102) ∧ S' = ((T, n, pf, g, (sn, B, kp, km, ku), (sn1, B1, kp1, km1, ku1), (sn2, B2, kp2, km2, ku2), (rg, O, BO, P, M, U)) : gSt)) ∨ (inI x1 (nI 1) (nI 30) = true ∧ (tN T = 0 ∨ ¬ km + x1 ≤ nI 999) ∧ y = (-103) ∧ S' = ((T, n, pf, g, (sn, B, kp, km, ku), (sn1, B1, kp1, km1, ku1), (sn2, B2, kp2, km2, ku2), (rg, O, BO, P, M, U)) : gSt)) ∨ (inI x1 (nI 1) (nI 30) = true ∧ ¬ tN T = 0 ∧ km + x1 ≤ nI 999 ∧ y = km + x1 ∧ S' = ((T, n, pf, g, (sn, B, kp, km + x1, ku), (sn1, B1, kp1, km1, ku1), (sn2, B2, kp2, km2, ku2), (rg, O, BO, P, M, U)) : gSt)))) := by
  refine Cn.of (own := RX10) (cc := cX10_pass) (maxL := 2) (ret := (some .int)) (lv := [(0, .ref x), (1, .int x1)]) (by decide) rfl rfl (Nat.le_of_ble_eq_true rfl) rfl ?_
  intro p_ e_ s_ m_ args_ below_ meth_ c_ A_ P_ hp_ F hr_ hnm_
  have hd_X10_hasTown : yX10_hasTown.cls = RX10 ∧ yX10_hasTown.cls ≠ "java/lang/invoke/MethodHandle" ∧ yX10_hasTown.cls ≠ "java/lang/invoke/VarHandle" ∧ (parseMethodDescriptor yX10_hasTown.desc).map (fun d => d.parameters.length) = some 0 := by decide +kernel
  have hf30_10 : Cond.fieldLink RX10 30 "KeyOnStreet" (TX10 2).2.1 (TX10 2).2.2.1 ∈ wsX10_pass := by decide +kernel
  have hi10 : ∀ w ∈ u_ws RX10 TX10 11, w ∈ wsX10_pass := by decide +kernel
  have hf102_5 : Cond.fieldLink RX10 102 "KeyOnStreet$Night" (TX5 1).2.1 (TX5 1).2.2.1 ∈ wsX10_pass := by decide +kernel
  have hi5 : ∀ w ∈ u_ws RX5 TX5 10, w ∈ wsX10_pass := by decide +kernel
  have hf106_2 : Cond.fieldLink RX10 106 "KeyOnStreet$Key" (TX2 1).2.1 (TX2 1).2.2.1 ∈ wsX10_pass := by decide +kernel
  have hi2 : ∀ w ∈ u_ws RX2 TX2 3, w ∈ wsX10_pass := by decide +kernel
  refine q_iload_n F 1 dX10_pass_0 rfl ?_
  refine q_iconst F dX10_pass_1 (v := nI 1) (by decide) ?_
  refine q_icmp_lt F (tgt := 11) dX10_pass_2 (by decide) (fun h_2 => ?_) (fun h_2 => ?_)
  · skip
    have hz_2 := Int32.not_le.mpr h_2
    refine q_bipush F dX10_pass_11 (v := (-102)) (by decide) ?_
    refine q_perm pf10 ?_
    refine q_perm pf10 ?_
    refine q_perm pf10 ?_
    refine q_perm pf10 ?_
    refine q_perm pf10 ?_
    refine q_perm pf10 ?_
    refine q_perm pf10 ?_
    refine q_perm pf10 ?_
    refine q_perm pf10 ?_
    refine q_perm pf10 ?_
    refine q_perm pf10 ?_
    exact q_iret F hr_ dX10_pass_13 (hp_ _ _ ⟨(-102), ((T, n, pf, g, (sn, B, kp, km, ku), (sn1, B1, kp1, km1, ku1), (sn2, B2, kp2, km2, ku2), (rg, O, BO, P, M, U)) : gSt), rfl, rfl, Or.inl (⟨inI_lo h_2, rfl, rfl⟩)⟩)
  · skip
    have hz_2 := Int32.not_lt.mp h_2
    refine q_iload_n F 1 dX10_pass_5 rfl ?_
    refine q_bipush F dX10_pass_6 (v := nI 30) (by decide) ?_
    refine q_icmp_le F (tgt := 14) dX10_pass_8 (by decide) (fun h_8 => ?_) (fun h_8 => ?_)
    · skip
      have hz_8 := Int32.not_lt.mpr h_8
      refine q_aload_n F 0 dX10_pass_14 rfl ?_
      refine q_perm pf10 ?_
      refine q_perm pf10 ?_
      refine q_perm pf10 ?_
      refine q_perm pf10 ?_
      refine q_perm pf10 ?_
      refine q_perm pf10 ?_
      refine q_perm pf10 ?_
      refine q_perm pf10 ?_
      refine q_perm pf10 ?_
      refine q_perm pf10 ?_
      refine q_perm pf10 ?_
      refine q_callV F (ci := 10) (As := []) (rest := []) (List.mem_append_left _ (List.mem_of_getElem? (i := 0) rfl)) rfl (c_X10_hasTown l E x q t a k u r kd T g n pf sn B kp km ku sn1 B1 kp1 km1 ku1 sn2 B2 kp2 km2 ku2 rg O BO P M U tl hH hn hq ) (List.Perm.refl _) gX10_pass_X10_hasTown rfl rfl rfl hd_X10_hasTown ⟨by decide, by decide⟩ rfl (Nat.le_of_ble_eq_true rfl) dX10_pass_15 ⟨Nat.le_of_ble_eq_true rfl, Nat.le_of_ble_eq_true rfl⟩ (fun v_ w_ hvw => ?_)
      rw [hvw.1, hvw.2]
      clear hvw
      refine q_at (pc' := 18) (st' := [.int (bI (decide (¬ tN T = 0)))]) (ws' := oC x (q 0) (t 0) (a 0) (k 0) (u 0) (r 0) g ++ (pC E q n pf ++ (tC E t T ++ (nC E a (t 0) sn B ++ (kC (a 1) kp km ku ++ (nC E k (t 0) sn1 B1 ++ (kC (k 1) kp1 km1 ku1 ++ (nC E u (t 0) sn2 B2 ++ (kC (u 1) kp2 km2 ku2 ++ (rC E r (t 0) kd rg O BO ++ (ksC kd P M U ++ tl))))))))))) (k' := 0) (n' := 0) rfl rfl rfl rfl rfl ?_
      refine q_if_eq F (tgt := 39) dX10_pass_18 (by decide) (fun h_18 => ?_) (fun h_18 => ?_)
      · skip
        have hb_18 := bI_0 h_18
        refine q_bipush F dX10_pass_39 (v := (-103)) (by decide) ?_
        refine q_perm pf10 ?_
        refine q_perm pf10 ?_
        refine q_perm pf10 ?_
        refine q_perm pf10 ?_
        refine q_perm pf10 ?_
        refine q_perm pf10 ?_
        refine q_perm pf10 ?_
        refine q_perm pf10 ?_
        refine q_perm pf10 ?_
        refine q_perm pf10 ?_
        refine q_perm pf10 ?_
        exact q_iret F hr_ dX10_pass_41 (hp_ _ _ ⟨(-103), ((T, n, pf, g, (sn, B, kp, km, ku), (sn1, B1, kp1, km1, ku1), (sn2, B2, kp2, km2, ku2), (rg, O, BO, P, M, U)) : gSt), rfl, rfl, Or.inr (Or.inl (⟨inI_t h_2 hz_8, Or.inl (by simpa using hb_18), rfl, rfl⟩))⟩)
      · skip
        have hb_18 := bI_1 h_18
        refine q_aload_n F 0 dX10_pass_21 rfl ?_
        refine q_get F (ci := 10) (j := 2) (v := .ref (a 0)) (List.mem_append_left _ (List.mem_of_getElem? (i := 0) rfl)) rfl hi10 (by decide) hf30_10 rfl rfl dX10_pass_22 ?_
        refine q_get F (ci := 5) (j := 1) (v := .ref (a 1)) (List.mem_append_right _ (List.mem_append_right _ (List.mem_append_right _ (List.mem_append_left _ (List.mem_of_getElem? (i := 0) rfl))))) rfl hi5 (by decide) hf102_5 rfl rfl dX10_pass_25 ?_
        refine q_get F (ci := 2) (j := 1) (v := .int km) (List.mem_append_right _ (List.mem_append_right _ (List.mem_append_right _ (List.mem_append_right _ (List.mem_append_left _ (List.mem_of_getElem? (i := 0) rfl)))))) rfl hi2 (by decide) hf106_2 rfl rfl dX10_pass_28 ?_
        refine q_iload_n F 1 dX10_pass_31 rfl ?_
        refine q_iadd F dX10_pass_32 ?_
        refine q_sipush F dX10_pass_33 (v := nI 999) (by decide) ?_
        refine q_icmp_le F (tgt := 42) dX10_pass_36 (by decide) (fun h_36 => ?_) (fun h_36 => ?_)
        · skip
          have hz_36 := Int32.not_lt.mpr h_36
          refine q_aload_n F 0 dX10_pass_42 rfl ?_
          refine q_get F (ci := 10) (j := 2) (v := .ref (a 0)) (List.mem_append_left _ (List.mem_of_getElem? (i := 0) rfl)) rfl hi10 (by decide) hf30_10 rfl rfl dX10_pass_43 ?_
          refine q_get F (ci := 5) (j := 1) (v := .ref (a 1)) (List.mem_append_right _ (List.mem_append_right _ (List.mem_append_right _ (List.mem_append_left _ (List.mem_of_getElem? (i := 0) rfl))))) rfl hi5 (by decide) hf102_5 rfl rfl dX10_pass_46 ?_
          refine q_dup F dX10_pass_49 rfl ?_
          refine q_get F (ci := 2) (j := 1) (v := .int km) (List.mem_append_right _ (List.mem_append_right _ (List.mem_append_right _ (List.mem_append_right _ (List.mem_append_left _ (List.mem_of_getElem? (i := 0) rfl)))))) rfl hi2 (by decide) hf106_2 rfl rfl dX10_pass_50 ?_
          refine q_iload_n F 1 dX10_pass_53 rfl ?_
          refine q_iadd F dX10_pass_54 ?_
          refine q_perm pf4 ?_
          refine q_put F (j := 1) 0 rfl rfl hi2 tyX2 tyX2_ok nmX2 (by decide) hf106_2 rfl rfl rfl rfl (Nat.le_of_ble_eq_true rfl) dX10_pass_55 (ws' := kC (a 1) kp (km + x1) ku ++ (oC x (q 0) (t 0) (a 0) (k 0) (u 0) (r 0) g ++ (pC E q n pf ++ (tC E t T ++ (nC E a (t 0) sn B ++ (nC E k (t 0) sn1 B1 ++ (kC (k 1) kp1 km1 ku1 ++ (nC E u (t 0) sn2 B2 ++ (kC (u 1) kp2 km2 ku2 ++ (rC E r (t 0) kd rg O BO ++ (ksC kd P M U ++ tl))))))))))) rfl ?_
          refine q_aload_n F 0 dX10_pass_58 rfl ?_
          refine q_get F (ci := 10) (j := 2) (v := .ref (a 0)) (List.mem_append_right _ (List.mem_append_left _ (List.mem_of_getElem? (i := 0) rfl))) rfl hi10 (by decide) hf30_10 rfl rfl dX10_pass_59 ?_
          refine q_get F (ci := 5) (j := 1) (v := .ref (a 1)) (List.mem_append_right _ (List.mem_append_right _ (List.mem_append_right _ (List.mem_append_right _ (List.mem_append_left _ (List.mem_of_getElem? (i := 0) rfl)))))) rfl hi5 (by decide) hf102_5 rfl rfl dX10_pass_62 ?_
          refine q_get F (ci := 2) (j := 1) (v := .int (km + x1)) (List.mem_append_left _ (List.mem_of_getElem? (i := 0) rfl)) rfl hi2 (by decide) hf106_2 rfl rfl dX10_pass_65 ?_
          refine q_perm pf10 ?_
          refine q_perm pf10 ?_
          refine q_perm pf10 ?_
          refine q_perm pf10 ?_
          refine q_perm pf10 ?_
          refine q_perm pf10 ?_
          refine q_perm pf6 ?_
          refine q_perm pf10 ?_
          refine q_perm pf10 ?_
          refine q_perm pf10 ?_
          refine q_perm pf10 ?_
          exact q_iret F hr_ dX10_pass_68 (hp_ _ _ ⟨km + x1, ((T, n, pf, g, (sn, B, kp, km + x1, ku), (sn1, B1, kp1, km1, ku1), (sn2, B2, kp2, km2, ku2), (rg, O, BO, P, M, U)) : gSt), rfl, rfl, Or.inr (Or.inr (⟨inI_t h_2 hz_8, (by simpa using hb_18), h_36, rfl, rfl⟩))⟩)
        · skip
          have hz_36 := Int32.not_le.mp h_36
          refine q_bipush F dX10_pass_39 (v := (-103)) (by decide) ?_
          refine q_perm pf10 ?_
          refine q_perm pf10 ?_
          refine q_perm pf10 ?_
          refine q_perm pf10 ?_
          refine q_perm pf10 ?_
          refine q_perm pf10 ?_
          refine q_perm pf10 ?_
          refine q_perm pf10 ?_
          refine q_perm pf10 ?_
          refine q_perm pf10 ?_
          refine q_perm pf10 ?_
          exact q_iret F hr_ dX10_pass_41 (hp_ _ _ ⟨(-103), ((T, n, pf, g, (sn, B, kp, km, ku), (sn1, B1, kp1, km1, ku1), (sn2, B2, kp2, km2, ku2), (rg, O, BO, P, M, U)) : gSt), rfl, rfl, Or.inr (Or.inl (⟨inI_t h_2 hz_8, Or.inr h_36, rfl, rfl⟩))⟩)
    · skip
      have hz_8 := Int32.not_le.mp h_8
      refine q_bipush F dX10_pass_11 (v := (-102)) (by decide) ?_
      refine q_perm pf10 ?_
      refine q_perm pf10 ?_
      refine q_perm pf10 ?_
      refine q_perm pf10 ?_
      refine q_perm pf10 ?_
      refine q_perm pf10 ?_
      refine q_perm pf10 ?_
      refine q_perm pf10 ?_
      refine q_perm pf10 ?_
      refine q_perm pf10 ?_
      refine q_perm pf10 ?_
      exact q_iret F hr_ dX10_pass_13 (hp_ _ _ ⟨(-102), ((T, n, pf, g, (sn, B, kp, km, ku), (sn1, B1, kp1, km1, ku1), (sn2, B2, kp2, km2, ku2), (rg, O, BO, P, M, U)) : gSt), rfl, rfl, Or.inl (⟨inI_hi hz_8, rfl, rfl⟩)⟩)

set_option maxHeartbeats 2000000 in
set_option maxRecDepth 100000 in
theorem c_X10_open (l : Launch) (E : gEnv) (x : Nat) (q t a k u r kd : Nat → Nat) (T : gTown) (g : Nat → Int32) (n : Nat) (pf : Nat → Int32) (sn : Int32) (B : Nat → Nat → Int32) (kp km ku : Int32) (sn1 : Int32) (B1 : Nat → Nat → Int32) (kp1 km1 ku1 : Int32) (sn2 : Int32) (B2 : Nat → Nat → Int32) (kp2 km2 ku2 : Int32) (rg O BO P M U : Nat → Int32) (tl : va_W) (hH : isHs T tl) (hn : tN T ≤ 6) (hq : n ≤ 30) (x1 : Int32) : Cn l E yX10_open wsX10_open (rmL 4 0 0) [.ref x, .int x1] (oC x (q 0) (t 0) (a 0) (k 0) (u 0) (r 0) g ++ (pC E q n pf ++ (tC E t T ++ (nC E a (t 0) sn B ++ (kC (a 1) kp km ku ++ (nC E k (t 0) sn1 B1 ++ (kC (k 1) kp1 km1 ku1 ++ (nC E u (t 0) sn2 B2 ++ (kC (u 1) kp2 km2 ku2 ++ (rC E r (t 0) kd rg O BO ++ (ksC kd P M U ++ tl))))))))))) 0 0 (fun v w => ∃ (y : Int32) (S' : gSt), v = some (.int y) ∧ w = xW E (x, q, t, a, k, u, r, kd) S' tl ∧ ((hsB (tN T) x1 = false ∧ y = (-101) ∧ S' = ((T, n, pf, g, (sn, B, kp, km, ku), (sn1, B1, kp1, km1, ku1), (sn2, B2, kp2, km2, ku2), (rg, O, BO, P, M, U)) : gSt)) ∨ (∃ (h : Nat), h < tN T ∧ x1 = nI h ∧ (outB (B 2) h && bitB (mayB (mwB T 6) (wtB (B 2) 6)) h) = false ∧ y = (-103) ∧ S' = ((T, n, pf, g, (sn, B, kp, km, ku), (sn1, B1, kp1, km1, ku1), (sn2, B2, kp2, km2, ku2), (rg, O, BO, P, M, U)) : gSt)) ∨ (∃ (h : Nat), h < tN T ∧ x1 = nI h ∧ (outB (B 2) h && bitB (mayB (mwB T 6) (wtB (B 2) 6)) h) = true ∧ y = brg (tK T h) (tP T h) kp km ku ∧ S' = ((T, n, pf, g, (sn, liB T B kp km ku h, tP T h, brg (tK T h) (tP T h) kp km ku, kpu (tK T h) (brg (tK T h) (tP T h) kp km ku)), (sn1, B1, kp1, km1, ku1), (sn2, B2, kp2, km2, ku2), (rg, O, BO, P, M, U)) : gSt)))) := by
  refine Cn.of (own := RX10) (cc := cX10_open) (maxL := 2) (ret := (some .int)) (lv := [(0, .ref x), (1, .int x1)]) (by decide) rfl rfl (Nat.le_of_ble_eq_true rfl) rfl ?_
  intro p_ e_ s_ m_ args_ below_ meth_ c_ A_ P_ hp_ F hr_ hnm_
  have hf21_10 : Cond.fieldLink RX10 21 "KeyOnStreet" (TX10 1).2.1 (TX10 1).2.2.1 ∈ wsX10_open := by decide +kernel
  have hi10 : ∀ w ∈ u_ws RX10 TX10 11, w ∈ wsX10_open := by decide +kernel
  have hd_X8_has : yX8_has.cls = RX8 ∧ yX8_has.cls ≠ "java/lang/invoke/MethodHandle" ∧ yX8_has.cls ≠ "java/lang/invoke/VarHandle" ∧ (parseMethodDescriptor yX8_has.desc).map (fun d => d.parameters.length) = some 1 := by decide +kernel
  have hf30_10 : Cond.fieldLink RX10 30 "KeyOnStreet" (TX10 2).2.1 (TX10 2).2.2.1 ∈ wsX10_open := by decide +kernel
  have hd_X5_mayOpen : yX5_mayOpen.cls = RX5 ∧ yX5_mayOpen.cls ≠ "java/lang/invoke/MethodHandle" ∧ yX5_mayOpen.cls ≠ "java/lang/invoke/VarHandle" ∧ (parseMethodDescriptor yX5_mayOpen.desc).map (fun d => d.parameters.length) = some 1 := by decide +kernel
  have hd_X5_letIn : yX5_letIn.cls = RX5 ∧ yX5_letIn.cls ≠ "java/lang/invoke/MethodHandle" ∧ yX5_letIn.cls ≠ "java/lang/invoke/VarHandle" ∧ (parseMethodDescriptor yX5_letIn.desc).map (fun d => d.parameters.length) = some 1 := by decide +kernel
  have hf102_5 : Cond.fieldLink RX10 102 "KeyOnStreet$Night" (TX5 1).2.1 (TX5 1).2.2.1 ∈ wsX10_open := by decide +kernel
  have hi5 : ∀ w ∈ u_ws RX5 TX5 10, w ∈ wsX10_open := by decide +kernel
  have hf106_2 : Cond.fieldLink RX10 106 "KeyOnStreet$Key" (TX2 1).2.1 (TX2 1).2.2.1 ∈ wsX10_open := by decide +kernel
  have hi2 : ∀ w ∈ u_ws RX2 TX2 3, w ∈ wsX10_open := by decide +kernel
  refine q_aload_n F 0 dX10_open_0 rfl ?_
  refine q_get F (ci := 10) (j := 1) (v := .ref (t 0)) (List.mem_append_left _ (List.mem_of_getElem? (i := 0) rfl)) rfl hi10 (by decide) hf21_10 rfl rfl dX10_open_1 ?_
  refine q_iload_n F 1 dX10_open_4 rfl ?_
  refine q_callV F (ci := 8) (As := [.int x1]) (rest := []) (List.mem_append_right _ (List.mem_append_right _ (List.mem_append_left _ (List.mem_of_getElem? (i := 0) rfl)))) rfl (c_X8_has l E t T (oC x (q 0) (t 0) (a 0) (k 0) (u 0) (r 0) g ++ (pC E q n pf ++ (tC E t T ++ (nC E a (t 0) sn B ++ (kC (a 1) kp km ku ++ (nC E k (t 0) sn1 B1 ++ (kC (k 1) kp1 km1 ku1 ++ (nC E u (t 0) sn2 B2 ++ (kC (u 1) kp2 km2 ku2 ++ (rC E r (t 0) kd rg O BO ++ (ksC kd P M U ++ tl))))))))))) (isIn.r _ (isIn.r _ (isIn.l _ _))) x1) (List.Perm.refl _) gX10_open_X8_has rfl rfl rfl hd_X8_has ⟨by decide, by decide⟩ rfl (Nat.le_of_ble_eq_true rfl) dX10_open_5 ⟨Nat.le_of_ble_eq_true rfl, Nat.le_of_ble_eq_true rfl⟩ (fun v_ w_ hvw => ?_)
  rw [hvw.1, hvw.2]
  clear hvw
  refine q_at (pc' := 8) (st' := [.int (bI (hsB (tN T) x1))]) (ws' := oC x (q 0) (t 0) (a 0) (k 0) (u 0) (r 0) g ++ (pC E q n pf ++ (tC E t T ++ (nC E a (t 0) sn B ++ (kC (a 1) kp km ku ++ (nC E k (t 0) sn1 B1 ++ (kC (k 1) kp1 km1 ku1 ++ (nC E u (t 0) sn2 B2 ++ (kC (u 1) kp2 km2 ku2 ++ (rC E r (t 0) kd rg O BO ++ (ksC kd P M U ++ tl))))))))))) (k' := 0) (n' := 0) rfl rfl rfl rfl rfl ?_
  refine q_if_ne F (tgt := 14) dX10_open_8 (by decide) (fun h_8 => ?_) (fun h_8 => ?_)
  · skip
    have hb_8 := bI_1 h_8
    obtain ⟨h, hh, rfl⟩ := hsB_of hn hb_8
    refine q_aload_n F 0 dX10_open_14 rfl ?_
    refine q_get F (ci := 10) (j := 2) (v := .ref (a 0)) (List.mem_append_left _ (List.mem_of_getElem? (i := 0) rfl)) rfl hi10 (by decide) hf30_10 rfl rfl dX10_open_15 ?_
    refine q_iload_n F 1 dX10_open_18 rfl ?_
    refine q_callV F (ci := 5) (As := [.int (nI h)]) (rest := []) (List.mem_append_right _ (List.mem_append_right _ (List.mem_append_right _ (List.mem_append_left _ (List.mem_of_getElem? (i := 0) rfl))))) rfl (c_X5_mayOpen l E a t T sn B kp km ku (oC x (q 0) (t 0) (a 0) (k 0) (u 0) (r 0) g ++ (pC E q n pf ++ (tC E t T ++ (nC E a (t 0) sn B ++ (kC (a 1) kp km ku ++ (nC E k (t 0) sn1 B1 ++ (kC (k 1) kp1 km1 ku1 ++ (nC E u (t 0) sn2 B2 ++ (kC (u 1) kp2 km2 ku2 ++ (rC E r (t 0) kd rg O BO ++ (ksC kd P M U ++ tl))))))))))) (isIn.r _ (isIn.r _ (isIn.r _ (isIn.l _ _)))) (isIn.r _ (isIn.r _ (isIn.r _ (isIn.r _ (isIn.l _ _))))) (isIn.r _ (isIn.r _ (isIn.l _ _))) (isHs.r _ (isHs.r _ (isHs.r _ (isHs.r _ (isHs.r _ (isHs.r _ (isHs.r _ (isHs.r _ (isHs.r _ (isHs.r _ (isHs.r _ hH))))))))))) hn h (by omega)) (List.Perm.refl _) gX10_open_X5_mayOpen rfl rfl rfl hd_X5_mayOpen ⟨by decide, by decide⟩ rfl (Nat.le_of_ble_eq_true rfl) dX10_open_19 ⟨Nat.le_of_ble_eq_true rfl, Nat.le_of_ble_eq_true rfl⟩ (fun v_ w_ hvw => ?_)
    rw [hvw.1, hvw.2]
    clear hvw
    refine q_at (pc' := 22) (st' := [.int (bI (outB (B 2) h && bitB (mayB (mwB T 6) (wtB (B 2) 6)) h))]) (ws' := oC x (q 0) (t 0) (a 0) (k 0) (u 0) (r 0) g ++ (pC E q n pf ++ (tC E t T ++ (nC E a (t 0) sn B ++ (kC (a 1) kp km ku ++ (nC E k (t 0) sn1 B1 ++ (kC (k 1) kp1 km1 ku1 ++ (nC E u (t 0) sn2 B2 ++ (kC (u 1) kp2 km2 ku2 ++ (rC E r (t 0) kd rg O BO ++ (ksC kd P M U ++ tl))))))))))) (k' := 0) (n' := 0) rfl rfl rfl rfl rfl ?_
    refine q_if_ne F (tgt := 28) dX10_open_22 (by decide) (fun h_22 => ?_) (fun h_22 => ?_)
    · skip
      have hb_22 := bI_1 h_22
      refine q_aload_n F 0 dX10_open_28 rfl ?_
      refine q_get F (ci := 10) (j := 2) (v := .ref (a 0)) (List.mem_append_left _ (List.mem_of_getElem? (i := 0) rfl)) rfl hi10 (by decide) hf30_10 rfl rfl dX10_open_29 ?_
      refine q_iload_n F 1 dX10_open_32 rfl ?_
      refine q_perm pf4 ?_
      refine q_perm pf4 ?_
      refine q_callV F (ci := 5) (As := [.int (nI h)]) (rest := []) (List.mem_append_left _ (List.mem_of_getElem? (i := 0) rfl)) rfl (c_X5_letIn l E a t T sn B kp km ku (oC x (q 0) (t 0) (a 0) (k 0) (u 0) (r 0) g ++ (pC E q n pf ++ (tC E t T ++ (nC E k (t 0) sn1 B1 ++ (kC (k 1) kp1 km1 ku1 ++ (nC E u (t 0) sn2 B2 ++ (kC (u 1) kp2 km2 ku2 ++ (rC E r (t 0) kd rg O BO ++ (ksC kd P M U ++ tl))))))))) (isIn.r _ (isIn.r _ (isIn.l _ _))) (isHs.r _ (isHs.r _ (isHs.r _ (isHs.r _ (isHs.r _ (isHs.r _ (isHs.r _ (isHs.r _ (isHs.r _ hH))))))))) hn h (by omega) (by simp only [Bool.and_eq_true] at hb_22; exact hb_22.1)) (List.Perm.refl _) gX10_open_X5_letIn rfl rfl rfl hd_X5_letIn ⟨by decide, by decide⟩ rfl (Nat.le_of_ble_eq_true rfl) dX10_open_33 ⟨Nat.le_of_ble_eq_true rfl, Nat.le_of_ble_eq_true rfl⟩ (fun v_ w_ hvw => ?_)
      rw [hvw.1, hvw.2]
      clear hvw
      refine q_at (pc' := 36) (st' := []) (ws' := nC E a (t 0) sn (liB T B kp km ku h) ++ (kC (a 1) (tP T h) (brg (tK T h) (tP T h) kp km ku) (kpu (tK T h) (brg (tK T h) (tP T h) kp km ku)) ++ (oC x (q 0) (t 0) (a 0) (k 0) (u 0) (r 0) g ++ (pC E q n pf ++ (tC E t T ++ (nC E k (t 0) sn1 B1 ++ (kC (k 1) kp1 km1 ku1 ++ (nC E u (t 0) sn2 B2 ++ (kC (u 1) kp2 km2 ku2 ++ (rC E r (t 0) kd rg O BO ++ (ksC kd P M U ++ tl))))))))))) (k' := 0) (n' := 0) rfl rfl rfl rfl rfl ?_
      refine q_aload_n F 0 dX10_open_36 rfl ?_
      refine q_get F (ci := 10) (j := 2) (v := .ref (a 0)) (List.mem_append_right _ (List.mem_append_right _ (List.mem_append_left _ (List.mem_of_getElem? (i := 0) rfl)))) rfl hi10 (by decide) hf30_10 rfl rfl dX10_open_37 ?_
      refine q_get F (ci := 5) (j := 1) (v := .ref (a 1)) (List.mem_append_left _ (List.mem_of_getElem? (i := 0) rfl)) rfl hi5 (by decide) hf102_5 rfl rfl dX10_open_40 ?_
      refine q_get F (ci := 2) (j := 1) (v := .int (brg (tK T h) (tP T h) kp km ku)) (List.mem_append_right _ (List.mem_append_left _ (List.mem_of_getElem? (i := 0) rfl))) rfl hi2 (by decide) hf106_2 rfl rfl dX10_open_43 ?_
      refine q_perm pf10 ?_
      refine q_perm pf10 ?_
      refine q_perm pf10 ?_
      refine q_perm pf10 ?_
      refine q_perm pf10 ?_
      refine q_perm pf10 ?_
      refine q_perm pf7 ?_
      refine q_perm pf7 ?_
      refine q_perm pf10 ?_
      refine q_perm pf10 ?_
      refine q_perm pf10 ?_
      exact q_iret F hr_ dX10_open_46 (hp_ _ _ ⟨brg (tK T h) (tP T h) kp km ku, ((T, n, pf, g, (sn, liB T B kp km ku h, tP T h, brg (tK T h) (tP T h) kp km ku, kpu (tK T h) (brg (tK T h) (tP T h) kp km ku)), (sn1, B1, kp1, km1, ku1), (sn2, B2, kp2, km2, ku2), (rg, O, BO, P, M, U)) : gSt), rfl, rfl, Or.inr (Or.inr (⟨h, hh, rfl, hb_22, rfl, rfl⟩))⟩)
    · skip
      have hb_22 := bI_0 h_22
      refine q_bipush F dX10_open_25 (v := (-103)) (by decide) ?_
      refine q_perm pf10 ?_
      refine q_perm pf10 ?_
      refine q_perm pf10 ?_
      refine q_perm pf10 ?_
      refine q_perm pf10 ?_
      refine q_perm pf10 ?_
      refine q_perm pf10 ?_
      refine q_perm pf10 ?_
      refine q_perm pf10 ?_
      refine q_perm pf10 ?_
      refine q_perm pf10 ?_
      exact q_iret F hr_ dX10_open_27 (hp_ _ _ ⟨(-103), ((T, n, pf, g, (sn, B, kp, km, ku), (sn1, B1, kp1, km1, ku1), (sn2, B2, kp2, km2, ku2), (rg, O, BO, P, M, U)) : gSt), rfl, rfl, Or.inr (Or.inl (⟨h, hh, rfl, by simpa using hb_22, rfl, rfl⟩))⟩)
  · skip
    have hb_8 := bI_0 h_8
    refine q_bipush F dX10_open_11 (v := (-101)) (by decide) ?_
    refine q_perm pf10 ?_
    refine q_perm pf10 ?_
    refine q_perm pf10 ?_
    refine q_perm pf10 ?_
    refine q_perm pf10 ?_
    refine q_perm pf10 ?_
    refine q_perm pf10 ?_
    refine q_perm pf10 ?_
    refine q_perm pf10 ?_
    refine q_perm pf10 ?_
    refine q_perm pf10 ?_
    exact q_iret F hr_ dX10_open_13 (hp_ _ _ ⟨(-101), ((T, n, pf, g, (sn, B, kp, km, ku), (sn1, B1, kp1, km1, ku1), (sn2, B2, kp2, km2, ku2), (rg, O, BO, P, M, U)) : gSt), rfl, rfl, Or.inl (⟨by simpa using hb_8, rfl, rfl⟩)⟩)

set_option maxHeartbeats 2000000 in
set_option maxRecDepth 100000 in
theorem c_X10_night (l : Launch) (E : gEnv) (x : Nat) (q t a k u r kd : Nat → Nat) (T : gTown) (g : Nat → Int32) (n : Nat) (pf : Nat → Int32) (sn : Int32) (B : Nat → Nat → Int32) (kp km ku : Int32) (sn1 : Int32) (B1 : Nat → Nat → Int32) (kp1 km1 ku1 : Int32) (sn2 : Int32) (B2 : Nat → Nat → Int32) (kp2 km2 ku2 : Int32) (rg O BO P M U : Nat → Int32) (tl : va_W) (hH : isHs T tl) (hn : tN T ≤ 6) (hq : n ≤ 30) : Cn l E yX10_night wsX10_night (rmL 4 0 0) [.ref x] (oC x (q 0) (t 0) (a 0) (k 0) (u 0) (r 0) g ++ (pC E q n pf ++ (tC E t T ++ (nC E a (t 0) sn B ++ (kC (a 1) kp km ku ++ (nC E k (t 0) sn1 B1 ++ (kC (k 1) kp1 km1 ku1 ++ (nC E u (t 0) sn2 B2 ++ (kC (u 1) kp2 km2 ku2 ++ (rC E r (t 0) kd rg O BO ++ (ksC kd P M U ++ tl))))))))))) 0 0 (fun v w => ∃ (y : Int32) (S' : gSt), v = some (.int y) ∧ w = xW E (x, q, t, a, k, u, r, kd) S' tl ∧ ((tN T = 0 ∧ y = (-103) ∧ S' = ((T, n, pf, g, (sn, B, kp, km, ku), (sn1, B1, kp1, km1, ku1), (sn2, B2, kp2, km2, ku2), (rg, O, BO, P, M, U)) : gSt)) ∨ (¬ tN T = 0 ∧ y = flA T (B 2) (tN T) ∧ S' = ((T, n, pf, g, (sn, va_up (va_up B 2 (flS (B 2) (tN T))) 5 (flO T (B 2) (B 5) (tN T)), kp, nI 0, nI 0), (sn1, B1, kp1, km1, ku1), (sn2, B2, kp2, km2, ku2), (rg, O, BO, P, M, U)) : gSt)))) := by
  refine Cn.of (own := RX10) (cc := cX10_night) (maxL := 1) (ret := (some .int)) (lv := [(0, .ref x)]) (by decide) rfl rfl (Nat.le_of_ble_eq_true rfl) rfl ?_
  intro p_ e_ s_ m_ args_ below_ meth_ c_ A_ P_ hp_ F hr_ hnm_
  have hd_X10_hasTown : yX10_hasTown.cls = RX10 ∧ yX10_hasTown.cls ≠ "java/lang/invoke/MethodHandle" ∧ yX10_hasTown.cls ≠ "java/lang/invoke/VarHandle" ∧ (parseMethodDescriptor yX10_hasTown.desc).map (fun d => d.parameters.length) = some 0 := by decide +kernel
  have hf30_10 : Cond.fieldLink RX10 30 "KeyOnStreet" (TX10 2).2.1 (TX10 2).2.2.1 ∈ wsX10_night := by decide +kernel
  have hi10 : ∀ w ∈ u_ws RX10 TX10 11, w ∈ wsX10_night := by decide +kernel
  have hd_X5_fall : yX5_fall.cls = RX5 ∧ yX5_fall.cls ≠ "java/lang/invoke/MethodHandle" ∧ yX5_fall.cls ≠ "java/lang/invoke/VarHandle" ∧ (parseMethodDescriptor yX5_fall.desc).map (fun d => d.parameters.length) = some 0 := by decide +kernel
  refine q_aload_n F 0 dX10_night_0 rfl ?_
  refine q_perm pf10 ?_
  refine q_perm pf10 ?_
  refine q_perm pf10 ?_
  refine q_perm pf10 ?_
  refine q_perm pf10 ?_
  refine q_perm pf10 ?_
  refine q_perm pf10 ?_
  refine q_perm pf10 ?_
  refine q_perm pf10 ?_
  refine q_perm pf10 ?_
  refine q_perm pf10 ?_
  refine q_callV F (ci := 10) (As := []) (rest := []) (List.mem_append_left _ (List.mem_of_getElem? (i := 0) rfl)) rfl (c_X10_hasTown l E x q t a k u r kd T g n pf sn B kp km ku sn1 B1 kp1 km1 ku1 sn2 B2 kp2 km2 ku2 rg O BO P M U tl hH hn hq ) (List.Perm.refl _) gX10_night_X10_hasTown rfl rfl rfl hd_X10_hasTown ⟨by decide, by decide⟩ rfl (Nat.le_of_ble_eq_true rfl) dX10_night_1 ⟨Nat.le_of_ble_eq_true rfl, Nat.le_of_ble_eq_true rfl⟩ (fun v_ w_ hvw => ?_)
  rw [hvw.1, hvw.2]
  clear hvw
  refine q_at (pc' := 4) (st' := [.int (bI (decide (¬ tN T = 0)))]) (ws' := oC x (q 0) (t 0) (a 0) (k 0) (u 0) (r 0) g ++ (pC E q n pf ++ (tC E t T ++ (nC E a (t 0) sn B ++ (kC (a 1) kp km ku ++ (nC E k (t 0) sn1 B1 ++ (kC (k 1) kp1 km1 ku1 ++ (nC E u (t 0) sn2 B2 ++ (kC (u 1) kp2 km2 ku2 ++ (rC E r (t 0) kd rg O BO ++ (ksC kd P M U ++ tl))))))))))) (k' := 0) (n' := 0) rfl rfl rfl rfl rfl ?_
  refine q_if_eq F (tgt := 17) dX10_night_4 (by decide) (fun h_4 => ?_) (fun h_4 => ?_)
  · skip
    have hb_4 := bI_0 h_4
    refine q_bipush F dX10_night_17 (v := (-103)) (by decide) ?_
    refine q_perm pf10 ?_
    refine q_perm pf10 ?_
    refine q_perm pf10 ?_
    refine q_perm pf10 ?_
    refine q_perm pf10 ?_
    refine q_perm pf10 ?_
    refine q_perm pf10 ?_
    refine q_perm pf10 ?_
    refine q_perm pf10 ?_
    refine q_perm pf10 ?_
    refine q_perm pf10 ?_
    exact q_iret F hr_ dX10_night_19 (hp_ _ _ ⟨(-103), ((T, n, pf, g, (sn, B, kp, km, ku), (sn1, B1, kp1, km1, ku1), (sn2, B2, kp2, km2, ku2), (rg, O, BO, P, M, U)) : gSt), rfl, rfl, Or.inl (⟨(by simpa using hb_4), rfl, rfl⟩)⟩)
  · skip
    have hb_4 := bI_1 h_4
    refine q_aload_n F 0 dX10_night_7 rfl ?_
    refine q_get F (ci := 10) (j := 2) (v := .ref (a 0)) (List.mem_append_left _ (List.mem_of_getElem? (i := 0) rfl)) rfl hi10 (by decide) hf30_10 rfl rfl dX10_night_8 ?_
    refine q_perm pf4 ?_
    refine q_perm pf4 ?_
    refine q_callV F (ci := 5) (As := []) (rest := []) (List.mem_append_left _ (List.mem_of_getElem? (i := 0) rfl)) rfl (c_X5_fall l E a t T sn B kp km ku (oC x (q 0) (t 0) (a 0) (k 0) (u 0) (r 0) g ++ (pC E q n pf ++ (tC E t T ++ (nC E k (t 0) sn1 B1 ++ (kC (k 1) kp1 km1 ku1 ++ (nC E u (t 0) sn2 B2 ++ (kC (u 1) kp2 km2 ku2 ++ (rC E r (t 0) kd rg O BO ++ (ksC kd P M U ++ tl))))))))) (isIn.r _ (isIn.r _ (isIn.l _ _))) (isHs.r _ (isHs.r _ (isHs.r _ (isHs.r _ (isHs.r _ (isHs.r _ (isHs.r _ (isHs.r _ (isHs.r _ hH))))))))) hn ) (List.Perm.refl _) gX10_night_X5_fall rfl rfl rfl hd_X5_fall ⟨by decide, by decide⟩ rfl (Nat.le_of_ble_eq_true rfl) dX10_night_11 ⟨Nat.le_of_ble_eq_true rfl, Nat.le_of_ble_eq_true rfl⟩ (fun v_ w_ hvw => ?_)
    rw [hvw.1, hvw.2]
    clear hvw
    refine q_at (pc' := 14) (st' := [.int (flA T (B 2) (tN T))]) (ws' := nC E a (t 0) sn (va_up (va_up B 2 (flS (B 2) (tN T))) 5 (flO T (B 2) (B 5) (tN T))) ++ (kC (a 1) kp (nI 0) (nI 0) ++ (oC x (q 0) (t 0) (a 0) (k 0) (u 0) (r 0) g ++ (pC E q n pf ++ (tC E t T ++ (nC E k (t 0) sn1 B1 ++ (kC (k 1) kp1 km1 ku1 ++ (nC E u (t 0) sn2 B2 ++ (kC (u 1) kp2 km2 ku2 ++ (rC E r (t 0) kd rg O BO ++ (ksC kd P M U ++ tl))))))))))) (k' := 0) (n' := 0) rfl rfl rfl rfl rfl ?_
    refine q_goto F (tgt := 19) dX10_night_14 (by decide) ?_
    refine q_perm pf10 ?_
    refine q_perm pf10 ?_
    refine q_perm pf10 ?_
    refine q_perm pf10 ?_
    refine q_perm pf10 ?_
    refine q_perm pf10 ?_
    refine q_perm pf7 ?_
    refine q_perm pf7 ?_
    refine q_perm pf10 ?_
    refine q_perm pf10 ?_
    refine q_perm pf10 ?_
    exact q_iret F hr_ dX10_night_19 (hp_ _ _ ⟨flA T (B 2) (tN T), ((T, n, pf, g, (sn, va_up (va_up B 2 (flS (B 2) (tN T))) 5 (flO T (B 2) (B 5) (tN T)), kp, nI 0, nI 0), (sn1, B1, kp1, km1, ku1), (sn2, B2, kp2, km2, ku2), (rg, O, BO, P, M, U)) : gSt), rfl, rfl, Or.inr (⟨(by simpa using hb_4), rfl, rfl⟩)⟩)

set_option maxHeartbeats 2000000 in
set_option maxRecDepth 100000 in
theorem c_X10_next (l : Launch) (E : gEnv) (x : Nat) (q t a k u r kd : Nat → Nat) (T : gTown) (g : Nat → Int32) (n : Nat) (pf : Nat → Int32) (sn : Int32) (B : Nat → Nat → Int32) (kp km ku : Int32) (sn1 : Int32) (B1 : Nat → Nat → Int32) (kp1 km1 ku1 : Int32) (sn2 : Int32) (B2 : Nat → Nat → Int32) (kp2 km2 ku2 : Int32) (rg O BO P M U : Nat → Int32) (tl : va_W) (hH : isHs T tl) (hn : tN T ≤ 6) (hq : n ≤ 30) (x1 : Int32) : Cn l E yX10_next wsX10_next (rmL 3 0 0) [.ref x, .int x1] (oC x (q 0) (t 0) (a 0) (k 0) (u 0) (r 0) g ++ (pC E q n pf ++ (tC E t T ++ (nC E a (t 0) sn B ++ (kC (a 1) kp km ku ++ (nC E k (t 0) sn1 B1 ++ (kC (k 1) kp1 km1 ku1 ++ (nC E u (t 0) sn2 B2 ++ (kC (u 1) kp2 km2 ku2 ++ (rC E r (t 0) kd rg O BO ++ (ksC kd P M U ++ tl))))))))))) 0 0 (fun v w => ∃ (y : Int32) (S' : gSt), v = some (.int y) ∧ w = xW E (x, q, t, a, k, u, r, kd) S' tl ∧ ((inI x1 (nI 0) (nI 2) = false ∧ y = (-102) ∧ S' = ((T, n, pf, g, (sn, B, kp, km, ku), (sn1, B1, kp1, km1, ku1), (sn2, B2, kp2, km2, ku2), (rg, O, BO, P, M, U)) : gSt)) ∨ (∃ (lw : Nat), lw < 3 ∧ x1 = nI lw ∧ tN T = 0 ∧ y = (-103) ∧ S' = ((T, n, pf, g, (sn, B, kp, km, ku), (sn1, B1, kp1, km1, ku1), (sn2, B2, kp2, km2, ku2), (rg, O, BO, P, M, U)) : gSt)) ∨ (∃ (lw : Nat), lw < 3 ∧ x1 = nI lw ∧ ¬ tN T = 0 ∧ y = nxB T lw (B 2) kp ∧ S' = ((T, n, pf, g, (sn, B, kp, km, ku), (sn1, B1, kp1, km1, ku1), (sn2, B2, kp2, km2, ku2), (rg, O, BO, P, M, U)) : gSt)))) := by
  refine Cn.of (own := RX10) (cc := cX10_next) (maxL := 2) (ret := (some .int)) (lv := [(0, .ref x), (1, .int x1)]) (by decide) rfl rfl (Nat.le_of_ble_eq_true rfl) rfl ?_
  intro p_ e_ s_ m_ args_ below_ meth_ c_ A_ P_ hp_ F hr_ hnm_
  have hd_X10_isLaw : yX10_isLaw.cls ≠ "java/lang/invoke/MethodHandle" ∧ yX10_isLaw.cls ≠ "java/lang/invoke/VarHandle" ∧ (parseMethodDescriptor yX10_isLaw.desc).map (fun d => d.parameters.length) = some 1 := by decide +kernel
  have hd_X10_hasTown : yX10_hasTown.cls = RX10 ∧ yX10_hasTown.cls ≠ "java/lang/invoke/MethodHandle" ∧ yX10_hasTown.cls ≠ "java/lang/invoke/VarHandle" ∧ (parseMethodDescriptor yX10_hasTown.desc).map (fun d => d.parameters.length) = some 0 := by decide +kernel
  have hf30_10 : Cond.fieldLink RX10 30 "KeyOnStreet" (TX10 2).2.1 (TX10 2).2.2.1 ∈ wsX10_next := by decide +kernel
  have hi10 : ∀ w ∈ u_ws RX10 TX10 11, w ∈ wsX10_next := by decide +kernel
  have hd_X5_nextBy : yX5_nextBy.cls = RX5 ∧ yX5_nextBy.cls ≠ "java/lang/invoke/MethodHandle" ∧ yX5_nextBy.cls ≠ "java/lang/invoke/VarHandle" ∧ (parseMethodDescriptor yX5_nextBy.desc).map (fun d => d.parameters.length) = some 1 := by decide +kernel
  refine q_iload_n F 1 dX10_next_0 rfl ?_
  refine q_callS F (As := [.int x1]) (rest := []) (c_X10_isLaw l E (oC x (q 0) (t 0) (a 0) (k 0) (u 0) (r 0) g ++ (pC E q n pf ++ (tC E t T ++ (nC E a (t 0) sn B ++ (kC (a 1) kp km ku ++ (nC E k (t 0) sn1 B1 ++ (kC (k 1) kp1 km1 ku1 ++ (nC E u (t 0) sn2 B2 ++ (kC (u 1) kp2 km2 ku2 ++ (rC E r (t 0) kd rg O BO ++ (ksC kd P M U ++ tl))))))))))) x1) (List.Perm.refl _) gX10_next_X10_isLaw rfl rfl rfl hd_X10_isLaw ⟨by decide, by decide⟩ rfl (Nat.le_of_ble_eq_true rfl) dX10_next_1 ⟨Nat.le_of_ble_eq_true rfl, Nat.le_of_ble_eq_true rfl⟩ (fun v_ w_ hvw => ?_)
  rw [hvw.1, hvw.2]
  clear hvw
  refine q_at (pc' := 4) (st' := [.int (bI (inI x1 (nI 0) (nI 2)))]) (ws' := oC x (q 0) (t 0) (a 0) (k 0) (u 0) (r 0) g ++ (pC E q n pf ++ (tC E t T ++ (nC E a (t 0) sn B ++ (kC (a 1) kp km ku ++ (nC E k (t 0) sn1 B1 ++ (kC (k 1) kp1 km1 ku1 ++ (nC E u (t 0) sn2 B2 ++ (kC (u 1) kp2 km2 ku2 ++ (rC E r (t 0) kd rg O BO ++ (ksC kd P M U ++ tl))))))))))) (k' := 0) (n' := 0) rfl rfl rfl rfl rfl ?_
  refine q_if_ne F (tgt := 10) dX10_next_4 (by decide) (fun h_4 => ?_) (fun h_4 => ?_)
  · skip
    have hb_4 := bI_1 h_4
    obtain ⟨lw, hlo_lw, hhi_lw, rfl⟩ := inI_nat (by decide) (by decide) (hb_4)
    have hl3 : lw < 3 := by omega
    refine q_aload_n F 0 dX10_next_10 rfl ?_
    refine q_perm pf10 ?_
    refine q_perm pf10 ?_
    refine q_perm pf10 ?_
    refine q_perm pf10 ?_
    refine q_perm pf10 ?_
    refine q_perm pf10 ?_
    refine q_perm pf10 ?_
    refine q_perm pf10 ?_
    refine q_perm pf10 ?_
    refine q_perm pf10 ?_
    refine q_perm pf10 ?_
    refine q_callV F (ci := 10) (As := []) (rest := []) (List.mem_append_left _ (List.mem_of_getElem? (i := 0) rfl)) rfl (c_X10_hasTown l E x q t a k u r kd T g n pf sn B kp km ku sn1 B1 kp1 km1 ku1 sn2 B2 kp2 km2 ku2 rg O BO P M U tl hH hn hq ) (List.Perm.refl _) gX10_next_X10_hasTown rfl rfl rfl hd_X10_hasTown ⟨by decide, by decide⟩ rfl (Nat.le_of_ble_eq_true rfl) dX10_next_11 ⟨Nat.le_of_ble_eq_true rfl, Nat.le_of_ble_eq_true rfl⟩ (fun v_ w_ hvw => ?_)
    rw [hvw.1, hvw.2]
    clear hvw
    refine q_at (pc' := 14) (st' := [.int (bI (decide (¬ tN T = 0)))]) (ws' := oC x (q 0) (t 0) (a 0) (k 0) (u 0) (r 0) g ++ (pC E q n pf ++ (tC E t T ++ (nC E a (t 0) sn B ++ (kC (a 1) kp km ku ++ (nC E k (t 0) sn1 B1 ++ (kC (k 1) kp1 km1 ku1 ++ (nC E u (t 0) sn2 B2 ++ (kC (u 1) kp2 km2 ku2 ++ (rC E r (t 0) kd rg O BO ++ (ksC kd P M U ++ tl))))))))))) (k' := 0) (n' := 0) rfl rfl rfl rfl rfl ?_
    refine q_if_eq F (tgt := 28) dX10_next_14 (by decide) (fun h_14 => ?_) (fun h_14 => ?_)
    · skip
      have hb_14 := bI_0 h_14
      refine q_bipush F dX10_next_28 (v := (-103)) (by decide) ?_
      refine q_perm pf10 ?_
      refine q_perm pf10 ?_
      refine q_perm pf10 ?_
      refine q_perm pf10 ?_
      refine q_perm pf10 ?_
      refine q_perm pf10 ?_
      refine q_perm pf10 ?_
      refine q_perm pf10 ?_
      refine q_perm pf10 ?_
      refine q_perm pf10 ?_
      refine q_perm pf10 ?_
      exact q_iret F hr_ dX10_next_30 (hp_ _ _ ⟨(-103), ((T, n, pf, g, (sn, B, kp, km, ku), (sn1, B1, kp1, km1, ku1), (sn2, B2, kp2, km2, ku2), (rg, O, BO, P, M, U)) : gSt), rfl, rfl, Or.inr (Or.inl (⟨lw, hl3, rfl, (by simpa using hb_14), rfl, rfl⟩))⟩)
    · skip
      have hb_14 := bI_1 h_14
      refine q_aload_n F 0 dX10_next_17 rfl ?_
      refine q_get F (ci := 10) (j := 2) (v := .ref (a 0)) (List.mem_append_left _ (List.mem_of_getElem? (i := 0) rfl)) rfl hi10 (by decide) hf30_10 rfl rfl dX10_next_18 ?_
      refine q_iload_n F 1 dX10_next_21 rfl ?_
      refine q_callV F (ci := 5) (As := [.int (nI lw)]) (rest := []) (List.mem_append_right _ (List.mem_append_right _ (List.mem_append_right _ (List.mem_append_left _ (List.mem_of_getElem? (i := 0) rfl))))) rfl (c_X5_nextBy l E a t T sn B kp km ku (oC x (q 0) (t 0) (a 0) (k 0) (u 0) (r 0) g ++ (pC E q n pf ++ (tC E t T ++ (nC E a (t 0) sn B ++ (kC (a 1) kp km ku ++ (nC E k (t 0) sn1 B1 ++ (kC (k 1) kp1 km1 ku1 ++ (nC E u (t 0) sn2 B2 ++ (kC (u 1) kp2 km2 ku2 ++ (rC E r (t 0) kd rg O BO ++ (ksC kd P M U ++ tl))))))))))) (isIn.r _ (isIn.r _ (isIn.r _ (isIn.l _ _)))) (isIn.r _ (isIn.r _ (isIn.r _ (isIn.r _ (isIn.l _ _))))) (isIn.r _ (isIn.r _ (isIn.l _ _))) (isHs.r _ (isHs.r _ (isHs.r _ (isHs.r _ (isHs.r _ (isHs.r _ (isHs.r _ (isHs.r _ (isHs.r _ (isHs.r _ (isHs.r _ hH))))))))))) hn lw hl3) (List.Perm.refl _) gX10_next_X5_nextBy rfl rfl rfl hd_X5_nextBy ⟨by decide, by decide⟩ rfl (Nat.le_of_ble_eq_true rfl) dX10_next_22 ⟨Nat.le_of_ble_eq_true rfl, Nat.le_of_ble_eq_true rfl⟩ (fun v_ w_ hvw => ?_)
      rw [hvw.1, hvw.2]
      clear hvw
      refine q_at (pc' := 25) (st' := [.int (nxB T lw (B 2) kp)]) (ws' := oC x (q 0) (t 0) (a 0) (k 0) (u 0) (r 0) g ++ (pC E q n pf ++ (tC E t T ++ (nC E a (t 0) sn B ++ (kC (a 1) kp km ku ++ (nC E k (t 0) sn1 B1 ++ (kC (k 1) kp1 km1 ku1 ++ (nC E u (t 0) sn2 B2 ++ (kC (u 1) kp2 km2 ku2 ++ (rC E r (t 0) kd rg O BO ++ (ksC kd P M U ++ tl))))))))))) (k' := 0) (n' := 0) rfl rfl rfl rfl rfl ?_
      refine q_goto F (tgt := 30) dX10_next_25 (by decide) ?_
      refine q_perm pf10 ?_
      refine q_perm pf10 ?_
      refine q_perm pf10 ?_
      refine q_perm pf10 ?_
      refine q_perm pf10 ?_
      refine q_perm pf10 ?_
      refine q_perm pf10 ?_
      refine q_perm pf10 ?_
      refine q_perm pf10 ?_
      refine q_perm pf10 ?_
      refine q_perm pf10 ?_
      exact q_iret F hr_ dX10_next_30 (hp_ _ _ ⟨nxB T lw (B 2) kp, ((T, n, pf, g, (sn, B, kp, km, ku), (sn1, B1, kp1, km1, ku1), (sn2, B2, kp2, km2, ku2), (rg, O, BO, P, M, U)) : gSt), rfl, rfl, Or.inr (Or.inr (⟨lw, hl3, rfl, (by simpa using hb_14), rfl, rfl⟩))⟩)
  · skip
    have hb_4 := bI_0 h_4
    refine q_bipush F dX10_next_7 (v := (-102)) (by decide) ?_
    refine q_perm pf10 ?_
    refine q_perm pf10 ?_
    refine q_perm pf10 ?_
    refine q_perm pf10 ?_
    refine q_perm pf10 ?_
    refine q_perm pf10 ?_
    refine q_perm pf10 ?_
    refine q_perm pf10 ?_
    refine q_perm pf10 ?_
    refine q_perm pf10 ?_
    refine q_perm pf10 ?_
    exact q_iret F hr_ dX10_next_9 (hp_ _ _ ⟨(-102), ((T, n, pf, g, (sn, B, kp, km, ku), (sn1, B1, kp1, km1, ku1), (sn2, B2, kp2, km2, ku2), (rg, O, BO, P, M, U)) : gSt), rfl, rfl, Or.inl (⟨by simpa using hb_4, rfl, rfl⟩)⟩)

set_option maxHeartbeats 2000000 in
set_option maxRecDepth 100000 in
theorem c_X10_by (l : Launch) (E : gEnv) (x : Nat) (q t a k u r kd : Nat → Nat) (T : gTown) (g : Nat → Int32) (n : Nat) (pf : Nat → Int32) (sn : Int32) (B : Nat → Nat → Int32) (kp km ku : Int32) (sn1 : Int32) (B1 : Nat → Nat → Int32) (kp1 km1 ku1 : Int32) (sn2 : Int32) (B2 : Nat → Nat → Int32) (kp2 km2 ku2 : Int32) (rg O BO P M U : Nat → Int32) (tl : va_W) (hH : isHs T tl) (hn : tN T ≤ 6) (hq : n ≤ 30) (x1 x2 : Int32) (hz : okZ (B 8)) : Cn l E yX10_by wsX10_by (rmL 6 0 0) [.ref x, .int x1, .int x2] (oC x (q 0) (t 0) (a 0) (k 0) (u 0) (r 0) g ++ (pC E q n pf ++ (tC E t T ++ (nC E a (t 0) sn B ++ (kC (a 1) kp km ku ++ (nC E k (t 0) sn1 B1 ++ (kC (k 1) kp1 km1 ku1 ++ (nC E u (t 0) sn2 B2 ++ (kC (u 1) kp2 km2 ku2 ++ (rC E r (t 0) kd rg O BO ++ (ksC kd P M U ++ tl))))))))))) 0 0 (fun v w => ∃ (y : Int32) (S' : gSt), v = some (.int y) ∧ w = xW E (x, q, t, a, k, u, r, kd) S' tl ∧ (((inI x1 (nI 0) (nI 2) = false ∨ inI x2 (nI 0) (nI 2) = false) ∧ y = (-102) ∧ S' = ((T, n, pf, g, (sn, B, kp, km, ku), (sn1, B1, kp1, km1, ku1), (sn2, B2, kp2, km2, ku2), (rg, O, BO, P, M, U)) : gSt)) ∨ (∃ (lw : Nat), lw < 3 ∧ x1 = nI lw ∧ inI x2 (nI 0) (nI 2) = true ∧ tN T = 0 ∧ y = (-103) ∧ S' = ((T, n, pf, g, (sn, B, kp, km, ku), (sn1, B1, kp1, km1, ku1), (sn2, B2, kp2, km2, ku2), (rg, O, BO, P, M, U)) : gSt)) ∨ (∃ (lw j : Nat), lw < 3 ∧ x1 = nI lw ∧ j ≤ 2 ∧ x2 = nI j ∧ ¬ tN T = 0 ∧ ∃ (z1 : Int32) (z2 : Nat → Nat → Int32) (z3 z4 z5 : Int32), y = byC T (B, kp, km, ku) lw j ∧ S' = ((T, n, pf, g, (sn, B, kp, km, ku), (sn1, B1, kp1, km1, ku1), (z1, z2, z3, z4, z5), (rg, O, BO, P, M, U)) : gSt)))) := by
  refine Cn.of (own := RX10) (cc := cX10_by) (maxL := 3) (ret := (some .int)) (lv := [(0, .ref x), (1, .int x1), (2, .int x2)]) (by decide) rfl rfl (Nat.le_of_ble_eq_true rfl) rfl ?_
  intro p_ e_ s_ m_ args_ below_ meth_ c_ A_ P_ hp_ F hr_ hnm_
  have hd_X10_isLaw : yX10_isLaw.cls ≠ "java/lang/invoke/MethodHandle" ∧ yX10_isLaw.cls ≠ "java/lang/invoke/VarHandle" ∧ (parseMethodDescriptor yX10_isLaw.desc).map (fun d => d.parameters.length) = some 1 := by decide +kernel
  have hd_X10_hasTown : yX10_hasTown.cls = RX10 ∧ yX10_hasTown.cls ≠ "java/lang/invoke/MethodHandle" ∧ yX10_hasTown.cls ≠ "java/lang/invoke/VarHandle" ∧ (parseMethodDescriptor yX10_hasTown.desc).map (fun d => d.parameters.length) = some 0 := by decide +kernel
  have hd_X10_goBy : yX10_goBy.cls = RX10 ∧ yX10_goBy.cls ≠ "java/lang/invoke/MethodHandle" ∧ yX10_goBy.cls ≠ "java/lang/invoke/VarHandle" ∧ (parseMethodDescriptor yX10_goBy.desc).map (fun d => d.parameters.length) = some 1 := by decide +kernel
  have hd_X10_toldByLaw : yX10_toldByLaw.cls = RX10 ∧ yX10_toldByLaw.cls ≠ "java/lang/invoke/MethodHandle" ∧ yX10_toldByLaw.cls ≠ "java/lang/invoke/VarHandle" ∧ (parseMethodDescriptor yX10_toldByLaw.desc).map (fun d => d.parameters.length) = some 1 := by decide +kernel
  refine q_iload_n F 1 dX10_by_0 rfl ?_
  refine q_callS F (As := [.int x1]) (rest := []) (c_X10_isLaw l E (oC x (q 0) (t 0) (a 0) (k 0) (u 0) (r 0) g ++ (pC E q n pf ++ (tC E t T ++ (nC E a (t 0) sn B ++ (kC (a 1) kp km ku ++ (nC E k (t 0) sn1 B1 ++ (kC (k 1) kp1 km1 ku1 ++ (nC E u (t 0) sn2 B2 ++ (kC (u 1) kp2 km2 ku2 ++ (rC E r (t 0) kd rg O BO ++ (ksC kd P M U ++ tl))))))))))) x1) (List.Perm.refl _) gX10_by_X10_isLaw rfl rfl rfl hd_X10_isLaw ⟨by decide, by decide⟩ rfl (Nat.le_of_ble_eq_true rfl) dX10_by_1 ⟨Nat.le_of_ble_eq_true rfl, Nat.le_of_ble_eq_true rfl⟩ (fun v_ w_ hvw => ?_)
  rw [hvw.1, hvw.2]
  clear hvw
  refine q_at (pc' := 4) (st' := [.int (bI (inI x1 (nI 0) (nI 2)))]) (ws' := oC x (q 0) (t 0) (a 0) (k 0) (u 0) (r 0) g ++ (pC E q n pf ++ (tC E t T ++ (nC E a (t 0) sn B ++ (kC (a 1) kp km ku ++ (nC E k (t 0) sn1 B1 ++ (kC (k 1) kp1 km1 ku1 ++ (nC E u (t 0) sn2 B2 ++ (kC (u 1) kp2 km2 ku2 ++ (rC E r (t 0) kd rg O BO ++ (ksC kd P M U ++ tl))))))))))) (k' := 0) (n' := 0) rfl rfl rfl rfl rfl ?_
  refine q_if_eq F (tgt := 16) dX10_by_4 (by decide) (fun h_4 => ?_) (fun h_4 => ?_)
  · skip
    have hb_4 := bI_0 h_4
    refine q_bipush F dX10_by_16 (v := (-102)) (by decide) ?_
    refine q_perm pf10 ?_
    refine q_perm pf10 ?_
    refine q_perm pf10 ?_
    refine q_perm pf10 ?_
    refine q_perm pf10 ?_
    refine q_perm pf10 ?_
    refine q_perm pf10 ?_
    refine q_perm pf10 ?_
    refine q_perm pf10 ?_
    refine q_perm pf10 ?_
    refine q_perm pf10 ?_
    exact q_iret F hr_ dX10_by_18 (hp_ _ _ ⟨(-102), ((T, n, pf, g, (sn, B, kp, km, ku), (sn1, B1, kp1, km1, ku1), (sn2, B2, kp2, km2, ku2), (rg, O, BO, P, M, U)) : gSt), rfl, rfl, Or.inl (⟨Or.inl (by simpa using hb_4), rfl, rfl⟩)⟩)
  · skip
    have hb_4 := bI_1 h_4
    obtain ⟨lw, hlo_lw, hhi_lw, rfl⟩ := inI_nat (by decide) (by decide) (hb_4)
    have hl3 : lw < 3 := by omega
    refine q_iload_n F 2 dX10_by_7 rfl ?_
    refine q_if_lt F (tgt := 16) dX10_by_8 (by decide) (fun h_8 => ?_) (fun h_8 => ?_)
    · skip
      have hz_8 := Int32.not_le.mpr h_8
      refine q_bipush F dX10_by_16 (v := (-102)) (by decide) ?_
      refine q_perm pf10 ?_
      refine q_perm pf10 ?_
      refine q_perm pf10 ?_
      refine q_perm pf10 ?_
      refine q_perm pf10 ?_
      refine q_perm pf10 ?_
      refine q_perm pf10 ?_
      refine q_perm pf10 ?_
      refine q_perm pf10 ?_
      refine q_perm pf10 ?_
      refine q_perm pf10 ?_
      exact q_iret F hr_ dX10_by_18 (hp_ _ _ ⟨(-102), ((T, n, pf, g, (sn, B, kp, km, ku), (sn1, B1, kp1, km1, ku1), (sn2, B2, kp2, km2, ku2), (rg, O, BO, P, M, U)) : gSt), rfl, rfl, Or.inl (⟨Or.inr (inI_lo h_8), rfl, rfl⟩)⟩)
    · skip
      have hz_8 := Int32.not_lt.mp h_8
      refine q_iload_n F 2 dX10_by_11 rfl ?_
      refine q_iconst F dX10_by_12 (v := nI 2) (by decide) ?_
      refine q_icmp_le F (tgt := 19) dX10_by_13 (by decide) (fun h_13 => ?_) (fun h_13 => ?_)
      · skip
        have hz_13 := Int32.not_lt.mpr h_13
        refine q_aload_n F 0 dX10_by_19 rfl ?_
        refine q_perm pf10 ?_
        refine q_perm pf10 ?_
        refine q_perm pf10 ?_
        refine q_perm pf10 ?_
        refine q_perm pf10 ?_
        refine q_perm pf10 ?_
        refine q_perm pf10 ?_
        refine q_perm pf10 ?_
        refine q_perm pf10 ?_
        refine q_perm pf10 ?_
        refine q_perm pf10 ?_
        refine q_callV F (ci := 10) (As := []) (rest := []) (List.mem_append_left _ (List.mem_of_getElem? (i := 0) rfl)) rfl (c_X10_hasTown l E x q t a k u r kd T g n pf sn B kp km ku sn1 B1 kp1 km1 ku1 sn2 B2 kp2 km2 ku2 rg O BO P M U tl hH hn hq ) (List.Perm.refl _) gX10_by_X10_hasTown rfl rfl rfl hd_X10_hasTown ⟨by decide, by decide⟩ rfl (Nat.le_of_ble_eq_true rfl) dX10_by_20 ⟨Nat.le_of_ble_eq_true rfl, Nat.le_of_ble_eq_true rfl⟩ (fun v_ w_ hvw => ?_)
        rw [hvw.1, hvw.2]
        clear hvw
        refine q_at (pc' := 23) (st' := [.int (bI (decide (¬ tN T = 0)))]) (ws' := oC x (q 0) (t 0) (a 0) (k 0) (u 0) (r 0) g ++ (pC E q n pf ++ (tC E t T ++ (nC E a (t 0) sn B ++ (kC (a 1) kp km ku ++ (nC E k (t 0) sn1 B1 ++ (kC (k 1) kp1 km1 ku1 ++ (nC E u (t 0) sn2 B2 ++ (kC (u 1) kp2 km2 ku2 ++ (rC E r (t 0) kd rg O BO ++ (ksC kd P M U ++ tl))))))))))) (k' := 0) (n' := 0) rfl rfl rfl rfl rfl ?_
        refine q_if_ne F (tgt := 29) dX10_by_23 (by decide) (fun h_23 => ?_) (fun h_23 => ?_)
        · skip
          have hb_23 := bI_1 h_23
          obtain ⟨j, hlo_j, hhi_j, rfl⟩ := inI_nat (by decide) (by decide) (inI_t (lo := nI 0) h_8 hz_13)
          refine q_aload_n F 0 dX10_by_29 rfl ?_
          refine q_iload_n F 1 dX10_by_30 rfl ?_
          refine q_perm pf10 ?_
          refine q_perm pf10 ?_
          refine q_perm pf10 ?_
          refine q_perm pf10 ?_
          refine q_perm pf10 ?_
          refine q_perm pf10 ?_
          refine q_perm pf10 ?_
          refine q_perm pf10 ?_
          refine q_perm pf10 ?_
          refine q_perm pf10 ?_
          refine q_perm pf10 ?_
          refine q_callV F (ci := 10) (As := [.int (nI lw)]) (rest := []) (List.mem_append_left _ (List.mem_of_getElem? (i := 0) rfl)) rfl (c_X10_goBy l E x q t a k u r kd T g n pf sn B kp km ku sn1 B1 kp1 km1 ku1 sn2 B2 kp2 km2 ku2 rg O BO P M U tl hH hn hq hz lw hl3) (List.Perm.refl _) gX10_by_X10_goBy rfl rfl rfl hd_X10_goBy ⟨by decide, by decide⟩ rfl (Nat.le_of_ble_eq_true rfl) dX10_by_31 ⟨Nat.le_of_ble_eq_true rfl, Nat.le_of_ble_eq_true rfl⟩ (fun v_ w_ hvw => ?_)
          rw [hvw.1, hvw.2]
          clear hvw
          refine q_at (pc' := 34) (st' := []) (ws' := oC x (q 0) (t 0) (a 0) (k 0) (u 0) (r 0) g ++ (pC E q n pf ++ (tC E t T ++ (nC E a (t 0) sn B ++ (kC (a 1) kp km ku ++ (nC E k (t 0) sn1 B1 ++ (kC (k 1) kp1 km1 ku1 ++ (nC E u (t 0) sn ((laN T lw 6 (B, kp, km, ku)).1) ++ (kC (u 1) ((laN T lw 6 (B, kp, km, ku)).2.1) ((laN T lw 6 (B, kp, km, ku)).2.2.1) ((laN T lw 6 (B, kp, km, ku)).2.2.2) ++ (rC E r (t 0) kd rg O BO ++ (ksC kd P M U ++ tl))))))))))) (k' := 0) (n' := 0) rfl rfl rfl rfl rfl ?_
          refine q_aload_n F 0 dX10_by_34 rfl ?_
          refine q_iload_n F 2 dX10_by_35 rfl ?_
          refine q_perm pf10 ?_
          refine q_perm pf10 ?_
          refine q_perm pf10 ?_
          refine q_perm pf10 ?_
          refine q_perm pf10 ?_
          refine q_perm pf10 ?_
          refine q_perm pf10 ?_
          refine q_perm pf10 ?_
          refine q_perm pf10 ?_
          refine q_perm pf10 ?_
          refine q_perm pf10 ?_
          refine q_callV F (ci := 10) (As := [.int (nI j)]) (rest := []) (List.mem_append_left _ (List.mem_of_getElem? (i := 0) rfl)) rfl (c_X10_toldByLaw l E x q t a k u r kd T g n pf sn B kp km ku sn1 B1 kp1 km1 ku1 sn ((laN T lw 6 (B, kp, km, ku)).1) ((laN T lw 6 (B, kp, km, ku)).2.1) ((laN T lw 6 (B, kp, km, ku)).2.2.1) ((laN T lw 6 (B, kp, km, ku)).2.2.2) rg O BO P M U tl hH hn hq j (by omega)) (List.Perm.refl _) gX10_by_X10_toldByLaw rfl rfl rfl hd_X10_toldByLaw ⟨by decide, by decide⟩ rfl (Nat.le_of_ble_eq_true rfl) dX10_by_36 ⟨Nat.le_of_ble_eq_true rfl, Nat.le_of_ble_eq_true rfl⟩ (fun v_ w_ hvw => ?_)
          rw [hvw.1, hvw.2]
          clear hvw
          refine q_at (pc' := 39) (st' := [.int (tbL B ((laN T lw 6 (B, kp, km, ku)).1) ((laN T lw 6 (B, kp, km, ku)).2.1) ((laN T lw 6 (B, kp, km, ku)).2.2.1) j)]) (ws' := oC x (q 0) (t 0) (a 0) (k 0) (u 0) (r 0) g ++ (pC E q n pf ++ (tC E t T ++ (nC E a (t 0) sn B ++ (kC (a 1) kp km ku ++ (nC E k (t 0) sn1 B1 ++ (kC (k 1) kp1 km1 ku1 ++ (nC E u (t 0) sn ((laN T lw 6 (B, kp, km, ku)).1) ++ (kC (u 1) ((laN T lw 6 (B, kp, km, ku)).2.1) ((laN T lw 6 (B, kp, km, ku)).2.2.1) ((laN T lw 6 (B, kp, km, ku)).2.2.2) ++ (rC E r (t 0) kd rg O BO ++ (ksC kd P M U ++ tl))))))))))) (k' := 0) (n' := 0) rfl rfl rfl rfl rfl ?_
          refine q_perm pf10 ?_
          refine q_perm pf10 ?_
          refine q_perm pf10 ?_
          refine q_perm pf10 ?_
          refine q_perm pf10 ?_
          refine q_perm pf10 ?_
          refine q_perm pf10 ?_
          refine q_perm pf10 ?_
          refine q_perm pf10 ?_
          refine q_perm pf10 ?_
          refine q_perm pf10 ?_
          exact q_iret F hr_ dX10_by_39 (hp_ _ _ ⟨tbL B ((laN T lw 6 (B, kp, km, ku)).1) ((laN T lw 6 (B, kp, km, ku)).2.1) ((laN T lw 6 (B, kp, km, ku)).2.2.1) j, ((T, n, pf, g, (sn, B, kp, km, ku), (sn1, B1, kp1, km1, ku1), (sn, (laN T lw 6 (B, kp, km, ku)).1, (laN T lw 6 (B, kp, km, ku)).2.1, (laN T lw 6 (B, kp, km, ku)).2.2.1, (laN T lw 6 (B, kp, km, ku)).2.2.2), (rg, O, BO, P, M, U)) : gSt), rfl, rfl, Or.inr (Or.inr (⟨lw, j, hl3, rfl, hhi_j, rfl, (by simpa using hb_23), _, _, _, _, _, by rcases (show j = 0 ∨ j = 1 ∨ j = 2 by omega) with rfl | rfl | rfl <;> rfl, rfl⟩))⟩)
        · skip
          have hb_23 := bI_0 h_23
          refine q_bipush F dX10_by_26 (v := (-103)) (by decide) ?_
          refine q_perm pf10 ?_
          refine q_perm pf10 ?_
          refine q_perm pf10 ?_
          refine q_perm pf10 ?_
          refine q_perm pf10 ?_
          refine q_perm pf10 ?_
          refine q_perm pf10 ?_
          refine q_perm pf10 ?_
          refine q_perm pf10 ?_
          refine q_perm pf10 ?_
          refine q_perm pf10 ?_
          exact q_iret F hr_ dX10_by_28 (hp_ _ _ ⟨(-103), ((T, n, pf, g, (sn, B, kp, km, ku), (sn1, B1, kp1, km1, ku1), (sn2, B2, kp2, km2, ku2), (rg, O, BO, P, M, U)) : gSt), rfl, rfl, Or.inr (Or.inl (⟨lw, hl3, rfl, inI_t (lo := nI 0) h_8 hz_13, (by simpa using hb_23), rfl, rfl⟩))⟩)
      · skip
        have hz_13 := Int32.not_le.mp h_13
        refine q_bipush F dX10_by_16 (v := (-102)) (by decide) ?_
        refine q_perm pf10 ?_
        refine q_perm pf10 ?_
        refine q_perm pf10 ?_
        refine q_perm pf10 ?_
        refine q_perm pf10 ?_
        refine q_perm pf10 ?_
        refine q_perm pf10 ?_
        refine q_perm pf10 ?_
        refine q_perm pf10 ?_
        refine q_perm pf10 ?_
        refine q_perm pf10 ?_
        exact q_iret F hr_ dX10_by_18 (hp_ _ _ ⟨(-102), ((T, n, pf, g, (sn, B, kp, km, ku), (sn1, B1, kp1, km1, ku1), (sn2, B2, kp2, km2, ku2), (rg, O, BO, P, M, U)) : gSt), rfl, rfl, Or.inl (⟨Or.inr (inI_hi hz_13), rfl, rfl⟩)⟩)
