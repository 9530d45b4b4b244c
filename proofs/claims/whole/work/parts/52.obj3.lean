/-! the object's public methods, second part -/
theorem nf_10 {y : Int32} (h : y < nI 10) : inI y (nI 10) (nI 15) = false := inI_lo h
def shE (T : gTown) (b : Nat → Bool) (p m u : Int32) : Int32 := (dfC T false true 7 b p m u (nI 0) 0 zF (ac0 zF)).2.1
theorem shE_of {T : gTown} {b : Nat → Bool} {p m u : Int32} {O BO : Nat → Int32} : (dfC T false true 7 b p m u (nI 0) 0 O (ac0 BO)).2.1 = shE T b p m u := (dfC_ind (acc := ac0 BO) (acc' := ac0 zF) ⟨rfl, rfl⟩).2
theorem drN_e {s : Int32} {n k : Nat} (hn : n < 2 ^ 31) (e : sdN s = nI n) : nI (n / 65536 % k) = nI (drN s k) := by unfold drN; rw [e, nI_clamp hn]
/-! the digest, by the class -/
def wyB (T : gTown) (N : gNt) (lw : Nat) (h : Int64) : Nat → Int64
  | 0 => h
  | j + 1 => sy (wyB T N lw h j) (byC T N lw j)
def wyL (T : gTown) (N : gNt) (h : Int64) : Nat → Int64
  | 0 => h
  | l + 1 => wyB T N l (sy (wyL T N h l) (nxB T l (N.1 2) N.2.1)) 3
def wyE (T : gTown) (N : gNt) (sk : Nat) (a : gAc) (h : Int64) : Int64 := sy (sy (sy (sy (sy (sy (wyL T N h 3) (bsC a 0)) (bsC a 1)) (bsC a 10)) (shE T (shN (N.1 2)) N.2.1 N.2.2.1 N.2.2.2)) (gsC T N.1 sk 30).1) (gsC T N.1 sk 30).2
def dyI (T : gTown) (B : Nat → Nat → Int32) (i : Nat) (h : Int64) : Nat → Int64
  | 0 => h
  | j + 1 => sy (dyI T B i h j) (tdF T B i j)
def dyO (T : gTown) (B : Nat → Nat → Int32) : Nat → Int64
  | 0 => 823
  | i + 1 => dyI T B i (dyO T B i) 8
def dyT (T : gTown) (N : gNt) (sk : Nat) (a : gAc) : Int64 := if tN T = 0 then dyO T N.1 (tN T) else wyE T N sk a (dyO T N.1 (tN T))
theorem dyT_0 {T : gTown} {N : gNt} {sk : Nat} {a : gAc} (h : tN T = 0) : dyT T N sk a = dyO T N.1 (tN T) := by unfold dyT; rw [if_pos h]
theorem dyT_1 {T : gTown} {N : gNt} {sk : Nat} {a : gAc} (h : ¬ tN T = 0) : dyT T N sk a = wyE T N sk a (dyO T N.1 (tN T)) := by unfold dyT; rw [if_neg h]
def dyN (c : Nat → Int32) (h : Int64) : Nat → Int64
  | 0 => h
  | k + 1 => sy (dyN c h k) (c k)
theorem cnC_g {T : gTown} {g g' : Nat → Int32} {n : Nat} {sn : Int32} {B : Nat → Nat → Int32} {kp km ku : Int32} (h7 : g' 7 = g 7) (h8 : g' 8 = g 8) : ∀ j, cnC T g' n sn B kp km ku j = cnC T g n sn B kp km ku j
  | 0 => rfl
  | 1 => rfl
  | 2 => rfl
  | 3 => rfl
  | 4 => rfl
  | 5 => rfl
  | 6 => rfl
  | 7 => rfl
  | 8 => rfl
  | 9 => h7
  | _ + 10 => h8
theorem va_up_eta {α : Type} (f : Nat → α) (k : Nat) : va_up f k (f k) = f := funext fun j => by
  by_cases h : j = k
  · subst h; exact va_up_self f j _
  · exact va_up_ne f _ h
set_option maxHeartbeats 2000000 in
set_option maxRecDepth 100000 in
theorem c_X10_best (l : Launch) (E : gEnv) (x : Nat) (q t a k u r kd : Nat → Nat) (T : gTown) (g : Nat → Int32) (n : Nat) (pf : Nat → Int32) (sn : Int32) (B : Nat → Nat → Int32) (kp km ku : Int32) (sn1 : Int32) (B1 : Nat → Nat → Int32) (kp1 km1 ku1 : Int32) (sn2 : Int32) (B2 : Nat → Nat → Int32) (kp2 km2 ku2 : Int32) (rg O BO P M U : Nat → Int32) (tl : va_W) (hH : isHs T tl) (hn : tN T ≤ 6) (hq : n ≤ 30) (x1 : Int32) (hB : okN T (B 2)) : Cn l E yX10_best wsX10_best (rmL 21 0 0) [.ref x, .int x1] (oC x (q 0) (t 0) (a 0) (k 0) (u 0) (r 0) g ++ (pC E q n pf ++ (tC E t T ++ (nC E a (t 0) sn B ++ (kC (a 1) kp km ku ++ (nC E k (t 0) sn1 B1 ++ (kC (k 1) kp1 km1 ku1 ++ (nC E u (t 0) sn2 B2 ++ (kC (u 1) kp2 km2 ku2 ++ (rC E r (t 0) kd rg O BO ++ (ksC kd P M U ++ tl))))))))))) 0 0 (fun v w => ∃ (y : Int32) (S' : gSt), v = some (.int y) ∧ w = xW E (x, q, t, a, k, u, r, kd) S' tl ∧ ((inI x1 (nI 0) (nI 1) = false ∧ inI x1 (nI 10) (nI 15) = false ∧ y = (-102) ∧ S' = ((T, n, pf, g, (sn, B, kp, km, ku), (sn1, B1, kp1, km1, ku1), (sn2, B2, kp2, km2, ku2), (rg, O, BO, P, M, U)) : gSt)) ∨ (∃ (j : Nat), (j = 0 ∨ j = 1 ∨ ∃ i, i < 6 ∧ j = 10 + i) ∧ x1 = nI j ∧ tN T = 0 ∧ y = (-103) ∧ S' = ((T, n, pf, g, (sn, B, kp, km, ku), (sn1, B1, kp1, km1, ku1), (sn2, B2, kp2, km2, ku2), (rg, O, BO, P, M, U)) : gSt)) ∨ (∃ (j : Nat), (j = 0 ∨ j = 1 ∨ ∃ i, i < 6 ∧ j = 10 + i) ∧ x1 = nI j ∧ ¬ tN T = 0 ∧ ∃ (r1 r2 r3 r4 r5 r6 : Nat → Int32), y = bsC (dfC T true true 7 (shN (B 2)) kp km ku (nI 0) 0 O (ac0 BO)) j ∧ S' = ((T, n, pf, g, (sn, B, kp, km, ku), (sn1, B1, kp1, km1, ku1), (sn2, B2, kp2, km2, ku2), (r1, r2, r3, r4, r5, r6)) : gSt)))) := by
  refine Cn.of (own := RX10) (cc := cX10_best) (maxL := 3) (ret := (some .int)) (lv := [(0, .ref x), (1, .int x1)]) (by decide) rfl rfl (Nat.le_of_ble_eq_true rfl) rfl ?_
  intro p_ e_ s_ m_ args_ below_ meth_ c_ A_ P_ hp_ F hr_ hnm_
  have hd_X10_hasTown : yX10_hasTown.cls = RX10 ∧ yX10_hasTown.cls ≠ "java/lang/invoke/MethodHandle" ∧ yX10_hasTown.cls ≠ "java/lang/invoke/VarHandle" ∧ (parseMethodDescriptor yX10_hasTown.desc).map (fun d => d.parameters.length) = some 0 := by decide +kernel
  have hf43_10 : Cond.fieldLink RX10 43 "KeyOnStreet" (TX10 5).2.1 (TX10 5).2.2.1 ∈ wsX10_best := by decide +kernel
  have hi10 : ∀ w ∈ u_ws RX10 TX10 11, w ∈ wsX10_best := by decide +kernel
  have hf30_10 : Cond.fieldLink RX10 30 "KeyOnStreet" (TX10 2).2.1 (TX10 2).2.2.1 ∈ wsX10_best := by decide +kernel
  have hf102_5 : Cond.fieldLink RX10 102 "KeyOnStreet$Night" (TX5 1).2.1 (TX5 1).2.2.1 ∈ wsX10_best := by decide +kernel
  have hi5 : ∀ w ∈ u_ws RX5 TX5 10, w ∈ wsX10_best := by decide +kernel
  have hf114_2 : Cond.fieldLink RX10 114 "KeyOnStreet$Key" (TX2 0).2.1 (TX2 0).2.2.1 ∈ wsX10_best := by decide +kernel
  have hi2 : ∀ w ∈ u_ws RX2 TX2 3, w ∈ wsX10_best := by decide +kernel
  have hd_X7_seekBest : yX7_seekBest.cls = RX7 ∧ yX7_seekBest.cls ≠ "java/lang/invoke/MethodHandle" ∧ yX7_seekBest.cls ≠ "java/lang/invoke/VarHandle" ∧ (parseMethodDescriptor yX7_seekBest.desc).map (fun d => d.parameters.length) = some 2 := by decide +kernel
  have hd_X10_toldOfBest : yX10_toldOfBest.cls = RX10 ∧ yX10_toldOfBest.cls ≠ "java/lang/invoke/MethodHandle" ∧ yX10_toldOfBest.cls ≠ "java/lang/invoke/VarHandle" ∧ (parseMethodDescriptor yX10_toldOfBest.desc).map (fun d => d.parameters.length) = some 1 := by decide +kernel
  refine q_iload_n F 1 dX10_best_0 rfl ?_
  refine q_bipush F dX10_best_1 (v := nI 10) (by decide) ?_
  refine q_icmp_lt F (tgt := 16) dX10_best_3 (by decide) (fun h_3 => ?_) (fun h_3 => ?_)
  · skip
    have hz_3 := Int32.not_le.mpr h_3
    refine q_iconst F dX10_best_16 (v := nI 0) (by decide) ?_
    refine q_istore_n F (lv' := [(2, .int (nI 0)), (0, .ref x), (1, .int x1)]) dX10_best_17 (by decide) rfl ?_
    refine q_iload_n F 2 dX10_best_18 rfl ?_
    refine q_if_eq F (tgt := 34) dX10_best_19 (by decide) (fun h_19 => ?_) (fun h_19 => ?_)
    · skip
      obtain ⟨j, hj, rfl⟩ : ∃ j, (j = 0 ∨ j = 1 ∨ ∃ i, i < 6 ∧ j = 10 + i) ∧ x1 = nI j := ⟨0, Or.inl rfl, h_19⟩
      refine q_aload_n F 1 dX10_best_34 rfl ?_
      refine q_perm pf10 ?_
      refine q_perm pf10 ?_
      refine q_perm pf10 ?_
      refine q_perm pf10 ?_
      refine q_perm pf10 ?_
      refine q_perm pf10 ?_
      refine q_perm pf10 ?_
      refine q_perm pf10 ?_
      refine q_perm pf10 ?_
      refine q_perm pf10 ?_
      refine q_perm pf10 ?_
      refine q_callV F (ci := 10) (As := []) (rest := []) (List.mem_append_left _ (List.mem_of_getElem? (i := 0) rfl)) rfl (c_X10_hasTown l E x q t a k u r kd T g n pf sn B kp km ku sn1 B1 kp1 km1 ku1 sn2 B2 kp2 km2 ku2 rg O BO P M U tl hH hn hq ) (List.Perm.refl _) gX10_best_X10_hasTown rfl rfl rfl hd_X10_hasTown ⟨by decide, by decide⟩ rfl (Nat.le_of_ble_eq_true rfl) dX10_best_35 ⟨Nat.le_of_ble_eq_true rfl, Nat.le_of_ble_eq_true rfl⟩ (fun v_ w_ hvw => ?_)
      rw [hvw.1, hvw.2]
      clear hvw
      refine q_at (pc' := 38) (st' := [.int (bI (decide (¬ tN T = 0)))]) (ws' := oC x (q 0) (t 0) (a 0) (k 0) (u 0) (r 0) g ++ (pC E q n pf ++ (tC E t T ++ (nC E a (t 0) sn B ++ (kC (a 1) kp km ku ++ (nC E k (t 0) sn1 B1 ++ (kC (k 1) kp1 km1 ku1 ++ (nC E u (t 0) sn2 B2 ++ (kC (u 1) kp2 km2 ku2 ++ (rC E r (t 0) kd rg O BO ++ (ksC kd P M U ++ tl))))))))))) (k' := 0) (n' := 0) rfl rfl rfl rfl rfl ?_
      refine q_if_ne F (tgt := 44) dX10_best_38 (by decide) (fun h_38 => ?_) (fun h_38 => ?_)
      · skip
        have hb_38 := bI_1 h_38
        refine q_aload_n F 1 dX10_best_44 rfl ?_
        refine q_get F (ci := 10) (j := 5) (v := .ref (r 0)) (List.mem_append_left _ (List.mem_of_getElem? (i := 0) rfl)) rfl hi10 (by decide) hf43_10 rfl rfl dX10_best_45 ?_
        refine q_aload_n F 1 dX10_best_48 rfl ?_
        refine q_get F (ci := 10) (j := 2) (v := .ref (a 0)) (List.mem_append_left _ (List.mem_of_getElem? (i := 0) rfl)) rfl hi10 (by decide) hf30_10 rfl rfl dX10_best_49 ?_
        refine q_aload_n F 1 dX10_best_52 rfl ?_
        refine q_get F (ci := 10) (j := 2) (v := .ref (a 0)) (List.mem_append_left _ (List.mem_of_getElem? (i := 0) rfl)) rfl hi10 (by decide) hf30_10 rfl rfl dX10_best_53 ?_
        refine q_get F (ci := 5) (j := 1) (v := .ref (a 1)) (List.mem_append_right _ (List.mem_append_right _ (List.mem_append_right _ (List.mem_append_left _ (List.mem_of_getElem? (i := 0) rfl))))) rfl hi5 (by decide) hf102_5 rfl rfl dX10_best_56 ?_
        refine q_get F (ci := 2) (j := 0) (v := .int kp) (List.mem_append_right _ (List.mem_append_right _ (List.mem_append_right _ (List.mem_append_right _ (List.mem_append_left _ (List.mem_of_getElem? (i := 0) rfl)))))) rfl hi2 (by decide) hf114_2 rfl rfl dX10_best_59 ?_
        refine q_perm pf10 ?_
        refine q_perm pf10 ?_
        refine q_callV F (ci := 7) (As := [.ref (a 0), .int kp]) (rest := []) (List.mem_append_left _ (List.mem_of_getElem? (i := 0) rfl)) rfl (c_X7_seekBest l E r t kd a T rg O BO P M U sn B kp km ku (oC x (q 0) (t 0) (a 0) (k 0) (u 0) (r 0) g ++ (pC E q n pf ++ (tC E t T ++ (nC E a (t 0) sn B ++ (kC (a 1) kp km ku ++ (nC E k (t 0) sn1 B1 ++ (kC (k 1) kp1 km1 ku1 ++ (nC E u (t 0) sn2 B2 ++ (kC (u 1) kp2 km2 ku2 ++ tl))))))))) (isIn.r _ (isIn.r _ (isIn.l _ _))) (isHs.r _ (isHs.r _ (isHs.r _ (isHs.r _ (isHs.r _ (isHs.r _ (isHs.r _ (isHs.r _ (isHs.r _ hH))))))))) hn (isIn.r _ (isIn.r _ (isIn.r _ (isIn.l _ _)))) (isIn.r _ (isIn.r _ (isIn.r _ (isIn.r _ (isIn.l _ _))))) hB kp) (List.Perm.refl _) gX10_best_X7_seekBest rfl rfl rfl hd_X7_seekBest ⟨by decide, by decide⟩ rfl (Nat.le_of_ble_eq_true rfl) dX10_best_62 ⟨Nat.le_of_ble_eq_true rfl, Nat.le_of_ble_eq_true rfl⟩ (fun v_ w_ hvw => ?_)
        obtain ⟨hv_, g8_0, O8_0, BO8_0, P8_0, M8_0, U8_0, hw_, ha8_0, h58_0, h68_0⟩ := hvw
        rw [hv_, hw_]
        clear hv_ hw_
        refine q_at (pc' := 65) (st' := []) (ws' := rC E r (t 0) kd g8_0 O8_0 BO8_0 ++ (ksC kd P8_0 M8_0 U8_0 ++ (oC x (q 0) (t 0) (a 0) (k 0) (u 0) (r 0) g ++ (pC E q n pf ++ (tC E t T ++ (nC E a (t 0) sn B ++ (kC (a 1) kp km ku ++ (nC E k (t 0) sn1 B1 ++ (kC (k 1) kp1 km1 ku1 ++ (nC E u (t 0) sn2 B2 ++ (kC (u 1) kp2 km2 ku2 ++ tl))))))))))) (k' := 0) (n' := 0) rfl rfl rfl rfl rfl ?_
        refine q_aload_n F 1 dX10_best_65 rfl ?_
        refine q_iload_n F 2 dX10_best_66 rfl ?_
        refine q_perm pf1 ?_
        refine q_perm pf1 ?_
        refine q_perm pf10 ?_
        refine q_perm pf10 ?_
        refine q_perm pf10 ?_
        refine q_perm pf10 ?_
        refine q_perm pf10 ?_
        refine q_perm pf10 ?_
        refine q_perm pf10 ?_
        refine q_perm pf10 ?_
        refine q_perm pf10 ?_
        refine q_callV F (ci := 10) (As := [.int (nI j)]) (rest := []) (List.mem_append_left _ (List.mem_of_getElem? (i := 0) rfl)) rfl (c_X10_toldOfBest l E x q t a k u r kd T g n pf sn B kp km ku sn1 B1 kp1 km1 ku1 sn2 B2 kp2 km2 ku2 g8_0 O8_0 BO8_0 P8_0 M8_0 U8_0 tl hH hn hq j hj) (List.Perm.refl _) gX10_best_X10_toldOfBest rfl rfl rfl hd_X10_toldOfBest ⟨by decide, by decide⟩ rfl (Nat.le_of_ble_eq_true rfl) dX10_best_67 ⟨Nat.le_of_ble_eq_true rfl, Nat.le_of_ble_eq_true rfl⟩ (fun v_ w_ hvw => ?_)
        rw [hvw.1, hvw.2]
        clear hvw
        refine q_at (pc' := 70) (st' := [.int (bsC (g8_0 7, g8_0 8, g8_0 4, BO8_0) j)]) (ws' := oC x (q 0) (t 0) (a 0) (k 0) (u 0) (r 0) g ++ (pC E q n pf ++ (tC E t T ++ (nC E a (t 0) sn B ++ (kC (a 1) kp km ku ++ (nC E k (t 0) sn1 B1 ++ (kC (k 1) kp1 km1 ku1 ++ (nC E u (t 0) sn2 B2 ++ (kC (u 1) kp2 km2 ku2 ++ (rC E r (t 0) kd g8_0 O8_0 BO8_0 ++ (ksC kd P8_0 M8_0 U8_0 ++ tl))))))))))) (k' := 0) (n' := 0) rfl rfl rfl rfl rfl ?_
        refine q_perm pf10 ?_
        refine q_perm pf10 ?_
        refine q_perm pf10 ?_
        refine q_perm pf10 ?_
        refine q_perm pf10 ?_
        refine q_perm pf10 ?_
        refine q_perm pf10 ?_
        refine q_perm pf10 ?_
        refine q_perm pf10 ?_
        refine q_perm pf10 ?_
        refine q_perm pf10 ?_
        exact q_iret F hr_ dX10_best_70 (hp_ _ _ ⟨bsC (g8_0 7, g8_0 8, g8_0 4, BO8_0) j, ((T, n, pf, g, (sn, B, kp, km, ku), (sn1, B1, kp1, km1, ku1), (sn2, B2, kp2, km2, ku2), (g8_0, O8_0, BO8_0, P8_0, M8_0, U8_0)) : gSt), rfl, rfl, Or.inr (Or.inr (⟨j, hj, rfl, (by simpa using hb_38), _, _, _, _, _, _, by rw [ha8_0], rfl⟩))⟩)
      · skip
        have hb_38 := bI_0 h_38
        refine q_bipush F dX10_best_41 (v := (-103)) (by decide) ?_
        refine q_perm pf10 ?_
        refine q_perm pf10 ?_
        refine q_perm pf10 ?_
        refine q_perm pf10 ?_
        refine q_perm pf10 ?_
        refine q_perm pf10 ?_
        refine q_perm pf10 ?_
        refine q_perm pf10 ?_
        refine q_perm pf10 ?_
        refine q_perm pf10 ?_
        refine q_perm pf10 ?_
        exact q_iret F hr_ dX10_best_43 (hp_ _ _ ⟨(-103), ((T, n, pf, g, (sn, B, kp, km, ku), (sn1, B1, kp1, km1, ku1), (sn2, B2, kp2, km2, ku2), (rg, O, BO, P, M, U)) : gSt), rfl, rfl, Or.inr (Or.inl (⟨j, hj, rfl, (by simpa using hb_38), rfl, rfl⟩))⟩)
    · skip
      refine q_iload_n F 2 dX10_best_22 rfl ?_
      refine q_iconst F dX10_best_23 (v := nI 1) (by decide) ?_
      refine q_icmp_eq F (tgt := 34) dX10_best_24 (by decide) (fun h_24 => ?_) (fun h_24 => ?_)
      · skip
        obtain ⟨j, hj, rfl⟩ : ∃ j, (j = 0 ∨ j = 1 ∨ ∃ i, i < 6 ∧ j = 10 + i) ∧ x1 = nI j := ⟨1, Or.inr (Or.inl rfl), h_24⟩
        refine q_aload_n F 1 dX10_best_34 rfl ?_
        refine q_perm pf10 ?_
        refine q_perm pf10 ?_
        refine q_perm pf10 ?_
        refine q_perm pf10 ?_
        refine q_perm pf10 ?_
        refine q_perm pf10 ?_
        refine q_perm pf10 ?_
        refine q_perm pf10 ?_
        refine q_perm pf10 ?_
        refine q_perm pf10 ?_
        refine q_perm pf10 ?_
        refine q_callV F (ci := 10) (As := []) (rest := []) (List.mem_append_left _ (List.mem_of_getElem? (i := 0) rfl)) rfl (c_X10_hasTown l E x q t a k u r kd T g n pf sn B kp km ku sn1 B1 kp1 km1 ku1 sn2 B2 kp2 km2 ku2 rg O BO P M U tl hH hn hq ) (List.Perm.refl _) gX10_best_X10_hasTown rfl rfl rfl hd_X10_hasTown ⟨by decide, by decide⟩ rfl (Nat.le_of_ble_eq_true rfl) dX10_best_35 ⟨Nat.le_of_ble_eq_true rfl, Nat.le_of_ble_eq_true rfl⟩ (fun v_ w_ hvw => ?_)
        rw [hvw.1, hvw.2]
        clear hvw
        refine q_at (pc' := 38) (st' := [.int (bI (decide (¬ tN T = 0)))]) (ws' := oC x (q 0) (t 0) (a 0) (k 0) (u 0) (r 0) g ++ (pC E q n pf ++ (tC E t T ++ (nC E a (t 0) sn B ++ (kC (a 1) kp km ku ++ (nC E k (t 0) sn1 B1 ++ (kC (k 1) kp1 km1 ku1 ++ (nC E u (t 0) sn2 B2 ++ (kC (u 1) kp2 km2 ku2 ++ (rC E r (t 0) kd rg O BO ++ (ksC kd P M U ++ tl))))))))))) (k' := 0) (n' := 0) rfl rfl rfl rfl rfl ?_
        refine q_if_ne F (tgt := 44) dX10_best_38 (by decide) (fun h_38 => ?_) (fun h_38 => ?_)
        · skip
          have hb_38 := bI_1 h_38
          refine q_aload_n F 1 dX10_best_44 rfl ?_
          refine q_get F (ci := 10) (j := 5) (v := .ref (r 0)) (List.mem_append_left _ (List.mem_of_getElem? (i := 0) rfl)) rfl hi10 (by decide) hf43_10 rfl rfl dX10_best_45 ?_
          refine q_aload_n F 1 dX10_best_48 rfl ?_
          refine q_get F (ci := 10) (j := 2) (v := .ref (a 0)) (List.mem_append_left _ (List.mem_of_getElem? (i := 0) rfl)) rfl hi10 (by decide) hf30_10 rfl rfl dX10_best_49 ?_
          refine q_aload_n F 1 dX10_best_52 rfl ?_
          refine q_get F (ci := 10) (j := 2) (v := .ref (a 0)) (List.mem_append_left _ (List.mem_of_getElem? (i := 0) rfl)) rfl hi10 (by decide) hf30_10 rfl rfl dX10_best_53 ?_
          refine q_get F (ci := 5) (j := 1) (v := .ref (a 1)) (List.mem_append_right _ (List.mem_append_right _ (List.mem_append_right _ (List.mem_append_left _ (List.mem_of_getElem? (i := 0) rfl))))) rfl hi5 (by decide) hf102_5 rfl rfl dX10_best_56 ?_
          refine q_get F (ci := 2) (j := 0) (v := .int kp) (List.mem_append_right _ (List.mem_append_right _ (List.mem_append_right _ (List.mem_append_right _ (List.mem_append_left _ (List.mem_of_getElem? (i := 0) rfl)))))) rfl hi2 (by decide) hf114_2 rfl rfl dX10_best_59 ?_
          refine q_perm pf10 ?_
          refine q_perm pf10 ?_
          refine q_callV F (ci := 7) (As := [.ref (a 0), .int kp]) (rest := []) (List.mem_append_left _ (List.mem_of_getElem? (i := 0) rfl)) rfl (c_X7_seekBest l E r t kd a T rg O BO P M U sn B kp km ku (oC x (q 0) (t 0) (a 0) (k 0) (u 0) (r 0) g ++ (pC E q n pf ++ (tC E t T ++ (nC E a (t 0) sn B ++ (kC (a 1) kp km ku ++ (nC E k (t 0) sn1 B1 ++ (kC (k 1) kp1 km1 ku1 ++ (nC E u (t 0) sn2 B2 ++ (kC (u 1) kp2 km2 ku2 ++ tl))))))))) (isIn.r _ (isIn.r _ (isIn.l _ _))) (isHs.r _ (isHs.r _ (isHs.r _ (isHs.r _ (isHs.r _ (isHs.r _ (isHs.r _ (isHs.r _ (isHs.r _ hH))))))))) hn (isIn.r _ (isIn.r _ (isIn.r _ (isIn.l _ _)))) (isIn.r _ (isIn.r _ (isIn.r _ (isIn.r _ (isIn.l _ _))))) hB kp) (List.Perm.refl _) gX10_best_X7_seekBest rfl rfl rfl hd_X7_seekBest ⟨by decide, by decide⟩ rfl (Nat.le_of_ble_eq_true rfl) dX10_best_62 ⟨Nat.le_of_ble_eq_true rfl, Nat.le_of_ble_eq_true rfl⟩ (fun v_ w_ hvw => ?_)
          obtain ⟨hv_, g8_1, O8_1, BO8_1, P8_1, M8_1, U8_1, hw_, ha8_1, h58_1, h68_1⟩ := hvw
          rw [hv_, hw_]
          clear hv_ hw_
          refine q_at (pc' := 65) (st' := []) (ws' := rC E r (t 0) kd g8_1 O8_1 BO8_1 ++ (ksC kd P8_1 M8_1 U8_1 ++ (oC x (q 0) (t 0) (a 0) (k 0) (u 0) (r 0) g ++ (pC E q n pf ++ (tC E t T ++ (nC E a (t 0) sn B ++ (kC (a 1) kp km ku ++ (nC E k (t 0) sn1 B1 ++ (kC (k 1) kp1 km1 ku1 ++ (nC E u (t 0) sn2 B2 ++ (kC (u 1) kp2 km2 ku2 ++ tl))))))))))) (k' := 0) (n' := 0) rfl rfl rfl rfl rfl ?_
          refine q_aload_n F 1 dX10_best_65 rfl ?_
          refine q_iload_n F 2 dX10_best_66 rfl ?_
          refine q_perm pf1 ?_
          refine q_perm pf1 ?_
          refine q_perm pf10 ?_
          refine q_perm pf10 ?_
          refine q_perm pf10 ?_
          refine q_perm pf10 ?_
          refine q_perm pf10 ?_
          refine q_perm pf10 ?_
          refine q_perm pf10 ?_
          refine q_perm pf10 ?_
          refine q_perm pf10 ?_
          refine q_callV F (ci := 10) (As := [.int (nI j)]) (rest := []) (List.mem_append_left _ (List.mem_of_getElem? (i := 0) rfl)) rfl (c_X10_toldOfBest l E x q t a k u r kd T g n pf sn B kp km ku sn1 B1 kp1 km1 ku1 sn2 B2 kp2 km2 ku2 g8_1 O8_1 BO8_1 P8_1 M8_1 U8_1 tl hH hn hq j hj) (List.Perm.refl _) gX10_best_X10_toldOfBest rfl rfl rfl hd_X10_toldOfBest ⟨by decide, by decide⟩ rfl (Nat.le_of_ble_eq_true rfl) dX10_best_67 ⟨Nat.le_of_ble_eq_true rfl, Nat.le_of_ble_eq_true rfl⟩ (fun v_ w_ hvw => ?_)
          rw [hvw.1, hvw.2]
          clear hvw
          refine q_at (pc' := 70) (st' := [.int (bsC (g8_1 7, g8_1 8, g8_1 4, BO8_1) j)]) (ws' := oC x (q 0) (t 0) (a 0) (k 0) (u 0) (r 0) g ++ (pC E q n pf ++ (tC E t T ++ (nC E a (t 0) sn B ++ (kC (a 1) kp km ku ++ (nC E k (t 0) sn1 B1 ++ (kC (k 1) kp1 km1 ku1 ++ (nC E u (t 0) sn2 B2 ++ (kC (u 1) kp2 km2 ku2 ++ (rC E r (t 0) kd g8_1 O8_1 BO8_1 ++ (ksC kd P8_1 M8_1 U8_1 ++ tl))))))))))) (k' := 0) (n' := 0) rfl rfl rfl rfl rfl ?_
          refine q_perm pf10 ?_
          refine q_perm pf10 ?_
          refine q_perm pf10 ?_
          refine q_perm pf10 ?_
          refine q_perm pf10 ?_
          refine q_perm pf10 ?_
          refine q_perm pf10 ?_
          refine q_perm pf10 ?_
          refine q_perm pf10 ?_
          refine q_perm pf10 ?_
          refine q_perm pf10 ?_
          exact q_iret F hr_ dX10_best_70 (hp_ _ _ ⟨bsC (g8_1 7, g8_1 8, g8_1 4, BO8_1) j, ((T, n, pf, g, (sn, B, kp, km, ku), (sn1, B1, kp1, km1, ku1), (sn2, B2, kp2, km2, ku2), (g8_1, O8_1, BO8_1, P8_1, M8_1, U8_1)) : gSt), rfl, rfl, Or.inr (Or.inr (⟨j, hj, rfl, (by simpa using hb_38), _, _, _, _, _, _, by rw [ha8_1], rfl⟩))⟩)
        · skip
          have hb_38 := bI_0 h_38
          refine q_bipush F dX10_best_41 (v := (-103)) (by decide) ?_
          refine q_perm pf10 ?_
          refine q_perm pf10 ?_
          refine q_perm pf10 ?_
          refine q_perm pf10 ?_
          refine q_perm pf10 ?_
          refine q_perm pf10 ?_
          refine q_perm pf10 ?_
          refine q_perm pf10 ?_
          refine q_perm pf10 ?_
          refine q_perm pf10 ?_
          refine q_perm pf10 ?_
          exact q_iret F hr_ dX10_best_43 (hp_ _ _ ⟨(-103), ((T, n, pf, g, (sn, B, kp, km, ku), (sn1, B1, kp1, km1, ku1), (sn2, B2, kp2, km2, ku2), (rg, O, BO, P, M, U)) : gSt), rfl, rfl, Or.inr (Or.inl (⟨j, hj, rfl, (by simpa using hb_38), rfl, rfl⟩))⟩)
      · skip
        refine q_iload_n F 0 dX10_best_27 rfl ?_
        refine q_if_ne F (tgt := 34) dX10_best_28 (by decide) (fun h_28 => ?_) (fun h_28 => ?_)
        · skip
          exact absurd h_28 (by decide)
        · skip
          refine q_bipush F dX10_best_31 (v := (-102)) (by decide) ?_
          refine q_perm pf10 ?_
          refine q_perm pf10 ?_
          refine q_perm pf10 ?_
          refine q_perm pf10 ?_
          refine q_perm pf10 ?_
          refine q_perm pf10 ?_
          refine q_perm pf10 ?_
          refine q_perm pf10 ?_
          refine q_perm pf10 ?_
          refine q_perm pf10 ?_
          refine q_perm pf10 ?_
          exact q_iret F hr_ dX10_best_33 (hp_ _ _ ⟨(-102), ((T, n, pf, g, (sn, B, kp, km, ku), (sn1, B1, kp1, km1, ku1), (sn2, B2, kp2, km2, ku2), (rg, O, BO, P, M, U)) : gSt), rfl, rfl, Or.inl (⟨no01 h_19 h_24, inI_lo h_3, rfl, rfl⟩)⟩)
  · skip
    have hz_3 := Int32.not_lt.mp h_3
    refine q_iload_n F 1 dX10_best_6 rfl ?_
    refine q_bipush F dX10_best_7 (v := nI 16) (by decide) ?_
    refine q_icmp_ge F (tgt := 16) dX10_best_9 (by decide) (fun h_9 => ?_) (fun h_9 => ?_)
    · skip
      have hz_9 := Int32.not_lt.mpr h_9
      refine q_iconst F dX10_best_16 (v := nI 0) (by decide) ?_
      refine q_istore_n F (lv' := [(2, .int (nI 0)), (0, .ref x), (1, .int x1)]) dX10_best_17 (by decide) rfl ?_
      refine q_iload_n F 2 dX10_best_18 rfl ?_
      refine q_if_eq F (tgt := 34) dX10_best_19 (by decide) (fun h_19 => ?_) (fun h_19 => ?_)
      · skip
        obtain ⟨j, hj, rfl⟩ : ∃ j, (j = 0 ∨ j = 1 ∨ ∃ i, i < 6 ∧ j = 10 + i) ∧ x1 = nI j := ⟨0, Or.inl rfl, h_19⟩
        refine q_aload_n F 1 dX10_best_34 rfl ?_
        refine q_perm pf10 ?_
        refine q_perm pf10 ?_
        refine q_perm pf10 ?_
        refine q_perm pf10 ?_
        refine q_perm pf10 ?_
        refine q_perm pf10 ?_
        refine q_perm pf10 ?_
        refine q_perm pf10 ?_
        refine q_perm pf10 ?_
        refine q_perm pf10 ?_
        refine q_perm pf10 ?_
        refine q_callV F (ci := 10) (As := []) (rest := []) (List.mem_append_left _ (List.mem_of_getElem? (i := 0) rfl)) rfl (c_X10_hasTown l E x q t a k u r kd T g n pf sn B kp km ku sn1 B1 kp1 km1 ku1 sn2 B2 kp2 km2 ku2 rg O BO P M U tl hH hn hq ) (List.Perm.refl _) gX10_best_X10_hasTown rfl rfl rfl hd_X10_hasTown ⟨by decide, by decide⟩ rfl (Nat.le_of_ble_eq_true rfl) dX10_best_35 ⟨Nat.le_of_ble_eq_true rfl, Nat.le_of_ble_eq_true rfl⟩ (fun v_ w_ hvw => ?_)
        rw [hvw.1, hvw.2]
        clear hvw
        refine q_at (pc' := 38) (st' := [.int (bI (decide (¬ tN T = 0)))]) (ws' := oC x (q 0) (t 0) (a 0) (k 0) (u 0) (r 0) g ++ (pC E q n pf ++ (tC E t T ++ (nC E a (t 0) sn B ++ (kC (a 1) kp km ku ++ (nC E k (t 0) sn1 B1 ++ (kC (k 1) kp1 km1 ku1 ++ (nC E u (t 0) sn2 B2 ++ (kC (u 1) kp2 km2 ku2 ++ (rC E r (t 0) kd rg O BO ++ (ksC kd P M U ++ tl))))))))))) (k' := 0) (n' := 0) rfl rfl rfl rfl rfl ?_
        refine q_if_ne F (tgt := 44) dX10_best_38 (by decide) (fun h_38 => ?_) (fun h_38 => ?_)
        · skip
          have hb_38 := bI_1 h_38
          refine q_aload_n F 1 dX10_best_44 rfl ?_
          refine q_get F (ci := 10) (j := 5) (v := .ref (r 0)) (List.mem_append_left _ (List.mem_of_getElem? (i := 0) rfl)) rfl hi10 (by decide) hf43_10 rfl rfl dX10_best_45 ?_
          refine q_aload_n F 1 dX10_best_48 rfl ?_
          refine q_get F (ci := 10) (j := 2) (v := .ref (a 0)) (List.mem_append_left _ (List.mem_of_getElem? (i := 0) rfl)) rfl hi10 (by decide) hf30_10 rfl rfl dX10_best_49 ?_
          refine q_aload_n F 1 dX10_best_52 rfl ?_
          refine q_get F (ci := 10) (j := 2) (v := .ref (a 0)) (List.mem_append_left _ (List.mem_of_getElem? (i := 0) rfl)) rfl hi10 (by decide) hf30_10 rfl rfl dX10_best_53 ?_
          refine q_get F (ci := 5) (j := 1) (v := .ref (a 1)) (List.mem_append_right _ (List.mem_append_right _ (List.mem_append_right _ (List.mem_append_left _ (List.mem_of_getElem? (i := 0) rfl))))) rfl hi5 (by decide) hf102_5 rfl rfl dX10_best_56 ?_
          refine q_get F (ci := 2) (j := 0) (v := .int kp) (List.mem_append_right _ (List.mem_append_right _ (List.mem_append_right _ (List.mem_append_right _ (List.mem_append_left _ (List.mem_of_getElem? (i := 0) rfl)))))) rfl hi2 (by decide) hf114_2 rfl rfl dX10_best_59 ?_
          refine q_perm pf10 ?_
          refine q_perm pf10 ?_
          refine q_callV F (ci := 7) (As := [.ref (a 0), .int kp]) (rest := []) (List.mem_append_left _ (List.mem_of_getElem? (i := 0) rfl)) rfl (c_X7_seekBest l E r t kd a T rg O BO P M U sn B kp km ku (oC x (q 0) (t 0) (a 0) (k 0) (u 0) (r 0) g ++ (pC E q n pf ++ (tC E t T ++ (nC E a (t 0) sn B ++ (kC (a 1) kp km ku ++ (nC E k (t 0) sn1 B1 ++ (kC (k 1) kp1 km1 ku1 ++ (nC E u (t 0) sn2 B2 ++ (kC (u 1) kp2 km2 ku2 ++ tl))))))))) (isIn.r _ (isIn.r _ (isIn.l _ _))) (isHs.r _ (isHs.r _ (isHs.r _ (isHs.r _ (isHs.r _ (isHs.r _ (isHs.r _ (isHs.r _ (isHs.r _ hH))))))))) hn (isIn.r _ (isIn.r _ (isIn.r _ (isIn.l _ _)))) (isIn.r _ (isIn.r _ (isIn.r _ (isIn.r _ (isIn.l _ _))))) hB kp) (List.Perm.refl _) gX10_best_X7_seekBest rfl rfl rfl hd_X7_seekBest ⟨by decide, by decide⟩ rfl (Nat.le_of_ble_eq_true rfl) dX10_best_62 ⟨Nat.le_of_ble_eq_true rfl, Nat.le_of_ble_eq_true rfl⟩ (fun v_ w_ hvw => ?_)
          obtain ⟨hv_, g8_2, O8_2, BO8_2, P8_2, M8_2, U8_2, hw_, ha8_2, h58_2, h68_2⟩ := hvw
          rw [hv_, hw_]
          clear hv_ hw_
          refine q_at (pc' := 65) (st' := []) (ws' := rC E r (t 0) kd g8_2 O8_2 BO8_2 ++ (ksC kd P8_2 M8_2 U8_2 ++ (oC x (q 0) (t 0) (a 0) (k 0) (u 0) (r 0) g ++ (pC E q n pf ++ (tC E t T ++ (nC E a (t 0) sn B ++ (kC (a 1) kp km ku ++ (nC E k (t 0) sn1 B1 ++ (kC (k 1) kp1 km1 ku1 ++ (nC E u (t 0) sn2 B2 ++ (kC (u 1) kp2 km2 ku2 ++ tl))))))))))) (k' := 0) (n' := 0) rfl rfl rfl rfl rfl ?_
          refine q_aload_n F 1 dX10_best_65 rfl ?_
          refine q_iload_n F 2 dX10_best_66 rfl ?_
          refine q_perm pf1 ?_
          refine q_perm pf1 ?_
          refine q_perm pf10 ?_
          refine q_perm pf10 ?_
          refine q_perm pf10 ?_
          refine q_perm pf10 ?_
          refine q_perm pf10 ?_
          refine q_perm pf10 ?_
          refine q_perm pf10 ?_
          refine q_perm pf10 ?_
          refine q_perm pf10 ?_
          refine q_callV F (ci := 10) (As := [.int (nI j)]) (rest := []) (List.mem_append_left _ (List.mem_of_getElem? (i := 0) rfl)) rfl (c_X10_toldOfBest l E x q t a k u r kd T g n pf sn B kp km ku sn1 B1 kp1 km1 ku1 sn2 B2 kp2 km2 ku2 g8_2 O8_2 BO8_2 P8_2 M8_2 U8_2 tl hH hn hq j hj) (List.Perm.refl _) gX10_best_X10_toldOfBest rfl rfl rfl hd_X10_toldOfBest ⟨by decide, by decide⟩ rfl (Nat.le_of_ble_eq_true rfl) dX10_best_67 ⟨Nat.le_of_ble_eq_true rfl, Nat.le_of_ble_eq_true rfl⟩ (fun v_ w_ hvw => ?_)
          rw [hvw.1, hvw.2]
          clear hvw
          refine q_at (pc' := 70) (st' := [.int (bsC (g8_2 7, g8_2 8, g8_2 4, BO8_2) j)]) (ws' := oC x (q 0) (t 0) (a 0) (k 0) (u 0) (r 0) g ++ (pC E q n pf ++ (tC E t T ++ (nC E a (t 0) sn B ++ (kC (a 1) kp km ku ++ (nC E k (t 0) sn1 B1 ++ (kC (k 1) kp1 km1 ku1 ++ (nC E u (t 0) sn2 B2 ++ (kC (u 1) kp2 km2 ku2 ++ (rC E r (t 0) kd g8_2 O8_2 BO8_2 ++ (ksC kd P8_2 M8_2 U8_2 ++ tl))))))))))) (k' := 0) (n' := 0) rfl rfl rfl rfl rfl ?_
          refine q_perm pf10 ?_
          refine q_perm pf10 ?_
          refine q_perm pf10 ?_
          refine q_perm pf10 ?_
          refine q_perm pf10 ?_
          refine q_perm pf10 ?_
          refine q_perm pf10 ?_
          refine q_perm pf10 ?_
          refine q_perm pf10 ?_
          refine q_perm pf10 ?_
          refine q_perm pf10 ?_
          exact q_iret F hr_ dX10_best_70 (hp_ _ _ ⟨bsC (g8_2 7, g8_2 8, g8_2 4, BO8_2) j, ((T, n, pf, g, (sn, B, kp, km, ku), (sn1, B1, kp1, km1, ku1), (sn2, B2, kp2, km2, ku2), (g8_2, O8_2, BO8_2, P8_2, M8_2, U8_2)) : gSt), rfl, rfl, Or.inr (Or.inr (⟨j, hj, rfl, (by simpa using hb_38), _, _, _, _, _, _, by rw [ha8_2], rfl⟩))⟩)
        · skip
          have hb_38 := bI_0 h_38
          refine q_bipush F dX10_best_41 (v := (-103)) (by decide) ?_
          refine q_perm pf10 ?_
          refine q_perm pf10 ?_
          refine q_perm pf10 ?_
          refine q_perm pf10 ?_
          refine q_perm pf10 ?_
          refine q_perm pf10 ?_
          refine q_perm pf10 ?_
          refine q_perm pf10 ?_
          refine q_perm pf10 ?_
          refine q_perm pf10 ?_
          refine q_perm pf10 ?_
          exact q_iret F hr_ dX10_best_43 (hp_ _ _ ⟨(-103), ((T, n, pf, g, (sn, B, kp, km, ku), (sn1, B1, kp1, km1, ku1), (sn2, B2, kp2, km2, ku2), (rg, O, BO, P, M, U)) : gSt), rfl, rfl, Or.inr (Or.inl (⟨j, hj, rfl, (by simpa using hb_38), rfl, rfl⟩))⟩)
      · skip
        refine q_iload_n F 2 dX10_best_22 rfl ?_
        refine q_iconst F dX10_best_23 (v := nI 1) (by decide) ?_
        refine q_icmp_eq F (tgt := 34) dX10_best_24 (by decide) (fun h_24 => ?_) (fun h_24 => ?_)
        · skip
          obtain ⟨j, hj, rfl⟩ : ∃ j, (j = 0 ∨ j = 1 ∨ ∃ i, i < 6 ∧ j = 10 + i) ∧ x1 = nI j := ⟨1, Or.inr (Or.inl rfl), h_24⟩
          refine q_aload_n F 1 dX10_best_34 rfl ?_
          refine q_perm pf10 ?_
          refine q_perm pf10 ?_
          refine q_perm pf10 ?_
          refine q_perm pf10 ?_
          refine q_perm pf10 ?_
          refine q_perm pf10 ?_
          refine q_perm pf10 ?_
          refine q_perm pf10 ?_
          refine q_perm pf10 ?_
          refine q_perm pf10 ?_
          refine q_perm pf10 ?_
          refine q_callV F (ci := 10) (As := []) (rest := []) (List.mem_append_left _ (List.mem_of_getElem? (i := 0) rfl)) rfl (c_X10_hasTown l E x q t a k u r kd T g n pf sn B kp km ku sn1 B1 kp1 km1 ku1 sn2 B2 kp2 km2 ku2 rg O BO P M U tl hH hn hq ) (List.Perm.refl _) gX10_best_X10_hasTown rfl rfl rfl hd_X10_hasTown ⟨by decide, by decide⟩ rfl (Nat.le_of_ble_eq_true rfl) dX10_best_35 ⟨Nat.le_of_ble_eq_true rfl, Nat.le_of_ble_eq_true rfl⟩ (fun v_ w_ hvw => ?_)
          rw [hvw.1, hvw.2]
          clear hvw
          refine q_at (pc' := 38) (st' := [.int (bI (decide (¬ tN T = 0)))]) (ws' := oC x (q 0) (t 0) (a 0) (k 0) (u 0) (r 0) g ++ (pC E q n pf ++ (tC E t T ++ (nC E a (t 0) sn B ++ (kC (a 1) kp km ku ++ (nC E k (t 0) sn1 B1 ++ (kC (k 1) kp1 km1 ku1 ++ (nC E u (t 0) sn2 B2 ++ (kC (u 1) kp2 km2 ku2 ++ (rC E r (t 0) kd rg O BO ++ (ksC kd P M U ++ tl))))))))))) (k' := 0) (n' := 0) rfl rfl rfl rfl rfl ?_
          refine q_if_ne F (tgt := 44) dX10_best_38 (by decide) (fun h_38 => ?_) (fun h_38 => ?_)
          · skip
            have hb_38 := bI_1 h_38
            refine q_aload_n F 1 dX10_best_44 rfl ?_
            refine q_get F (ci := 10) (j := 5) (v := .ref (r 0)) (List.mem_append_left _ (List.mem_of_getElem? (i := 0) rfl)) rfl hi10 (by decide) hf43_10 rfl rfl dX10_best_45 ?_
            refine q_aload_n F 1 dX10_best_48 rfl ?_
            refine q_get F (ci := 10) (j := 2) (v := .ref (a 0)) (List.mem_append_left _ (List.mem_of_getElem? (i := 0) rfl)) rfl hi10 (by decide) hf30_10 rfl rfl dX10_best_49 ?_
            refine q_aload_n F 1 dX10_best_52 rfl ?_
            refine q_get F (ci := 10) (j := 2) (v := .ref (a 0)) (List.mem_append_left _ (List.mem_of_getElem? (i := 0) rfl)) rfl hi10 (by decide) hf30_10 rfl rfl dX10_best_53 ?_
            refine q_get F (ci := 5) (j := 1) (v := .ref (a 1)) (List.mem_append_right _ (List.mem_append_right _ (List.mem_append_right _ (List.mem_append_left _ (List.mem_of_getElem? (i := 0) rfl))))) rfl hi5 (by decide) hf102_5 rfl rfl dX10_best_56 ?_
            refine q_get F (ci := 2) (j := 0) (v := .int kp) (List.mem_append_right _ (List.mem_append_right _ (List.mem_append_right _ (List.mem_append_right _ (List.mem_append_left _ (List.mem_of_getElem? (i := 0) rfl)))))) rfl hi2 (by decide) hf114_2 rfl rfl dX10_best_59 ?_
            refine q_perm pf10 ?_
            refine q_perm pf10 ?_
            refine q_callV F (ci := 7) (As := [.ref (a 0), .int kp]) (rest := []) (List.mem_append_left _ (List.mem_of_getElem? (i := 0) rfl)) rfl (c_X7_seekBest l E r t kd a T rg O BO P M U sn B kp km ku (oC x (q 0) (t 0) (a 0) (k 0) (u 0) (r 0) g ++ (pC E q n pf ++ (tC E t T ++ (nC E a (t 0) sn B ++ (kC (a 1) kp km ku ++ (nC E k (t 0) sn1 B1 ++ (kC (k 1) kp1 km1 ku1 ++ (nC E u (t 0) sn2 B2 ++ (kC (u 1) kp2 km2 ku2 ++ tl))))))))) (isIn.r _ (isIn.r _ (isIn.l _ _))) (isHs.r _ (isHs.r _ (isHs.r _ (isHs.r _ (isHs.r _ (isHs.r _ (isHs.r _ (isHs.r _ (isHs.r _ hH))))))))) hn (isIn.r _ (isIn.r _ (isIn.r _ (isIn.l _ _)))) (isIn.r _ (isIn.r _ (isIn.r _ (isIn.r _ (isIn.l _ _))))) hB kp) (List.Perm.refl _) gX10_best_X7_seekBest rfl rfl rfl hd_X7_seekBest ⟨by decide, by decide⟩ rfl (Nat.le_of_ble_eq_true rfl) dX10_best_62 ⟨Nat.le_of_ble_eq_true rfl, Nat.le_of_ble_eq_true rfl⟩ (fun v_ w_ hvw => ?_)
            obtain ⟨hv_, g8_3, O8_3, BO8_3, P8_3, M8_3, U8_3, hw_, ha8_3, h58_3, h68_3⟩ := hvw
            rw [hv_, hw_]
            clear hv_ hw_
            refine q_at (pc' := 65) (st' := []) (ws' := rC E r (t 0) kd g8_3 O8_3 BO8_3 ++ (ksC kd P8_3 M8_3 U8_3 ++ (oC x (q 0) (t 0) (a 0) (k 0) (u 0) (r 0) g ++ (pC E q n pf ++ (tC E t T ++ (nC E a (t 0) sn B ++ (kC (a 1) kp km ku ++ (nC E k (t 0) sn1 B1 ++ (kC (k 1) kp1 km1 ku1 ++ (nC E u (t 0) sn2 B2 ++ (kC (u 1) kp2 km2 ku2 ++ tl))))))))))) (k' := 0) (n' := 0) rfl rfl rfl rfl rfl ?_
            refine q_aload_n F 1 dX10_best_65 rfl ?_
            refine q_iload_n F 2 dX10_best_66 rfl ?_
            refine q_perm pf1 ?_
            refine q_perm pf1 ?_
            refine q_perm pf10 ?_
            refine q_perm pf10 ?_
            refine q_perm pf10 ?_
            refine q_perm pf10 ?_
            refine q_perm pf10 ?_
            refine q_perm pf10 ?_
            refine q_perm pf10 ?_
            refine q_perm pf10 ?_
            refine q_perm pf10 ?_
            refine q_callV F (ci := 10) (As := [.int (nI j)]) (rest := []) (List.mem_append_left _ (List.mem_of_getElem? (i := 0) rfl)) rfl (c_X10_toldOfBest l E x q t a k u r kd T g n pf sn B kp km ku sn1 B1 kp1 km1 ku1 sn2 B2 kp2 km2 ku2 g8_3 O8_3 BO8_3 P8_3 M8_3 U8_3 tl hH hn hq j hj) (List.Perm.refl _) gX10_best_X10_toldOfBest rfl rfl rfl hd_X10_toldOfBest ⟨by decide, by decide⟩ rfl (Nat.le_of_ble_eq_true rfl) dX10_best_67 ⟨Nat.le_of_ble_eq_true rfl, Nat.le_of_ble_eq_true rfl⟩ (fun v_ w_ hvw => ?_)
            rw [hvw.1, hvw.2]
            clear hvw
            refine q_at (pc' := 70) (st' := [.int (bsC (g8_3 7, g8_3 8, g8_3 4, BO8_3) j)]) (ws' := oC x (q 0) (t 0) (a 0) (k 0) (u 0) (r 0) g ++ (pC E q n pf ++ (tC E t T ++ (nC E a (t 0) sn B ++ (kC (a 1) kp km ku ++ (nC E k (t 0) sn1 B1 ++ (kC (k 1) kp1 km1 ku1 ++ (nC E u (t 0) sn2 B2 ++ (kC (u 1) kp2 km2 ku2 ++ (rC E r (t 0) kd g8_3 O8_3 BO8_3 ++ (ksC kd P8_3 M8_3 U8_3 ++ tl))))))))))) (k' := 0) (n' := 0) rfl rfl rfl rfl rfl ?_
            refine q_perm pf10 ?_
            refine q_perm pf10 ?_
            refine q_perm pf10 ?_
            refine q_perm pf10 ?_
            refine q_perm pf10 ?_
            refine q_perm pf10 ?_
            refine q_perm pf10 ?_
            refine q_perm pf10 ?_
            refine q_perm pf10 ?_
            refine q_perm pf10 ?_
            refine q_perm pf10 ?_
            exact q_iret F hr_ dX10_best_70 (hp_ _ _ ⟨bsC (g8_3 7, g8_3 8, g8_3 4, BO8_3) j, ((T, n, pf, g, (sn, B, kp, km, ku), (sn1, B1, kp1, km1, ku1), (sn2, B2, kp2, km2, ku2), (g8_3, O8_3, BO8_3, P8_3, M8_3, U8_3)) : gSt), rfl, rfl, Or.inr (Or.inr (⟨j, hj, rfl, (by simpa using hb_38), _, _, _, _, _, _, by rw [ha8_3], rfl⟩))⟩)
          · skip
            have hb_38 := bI_0 h_38
            refine q_bipush F dX10_best_41 (v := (-103)) (by decide) ?_
            refine q_perm pf10 ?_
            refine q_perm pf10 ?_
            refine q_perm pf10 ?_
            refine q_perm pf10 ?_
            refine q_perm pf10 ?_
            refine q_perm pf10 ?_
            refine q_perm pf10 ?_
            refine q_perm pf10 ?_
            refine q_perm pf10 ?_
            refine q_perm pf10 ?_
            refine q_perm pf10 ?_
            exact q_iret F hr_ dX10_best_43 (hp_ _ _ ⟨(-103), ((T, n, pf, g, (sn, B, kp, km, ku), (sn1, B1, kp1, km1, ku1), (sn2, B2, kp2, km2, ku2), (rg, O, BO, P, M, U)) : gSt), rfl, rfl, Or.inr (Or.inl (⟨j, hj, rfl, (by simpa using hb_38), rfl, rfl⟩))⟩)
        · skip
          refine q_iload_n F 0 dX10_best_27 rfl ?_
          refine q_if_ne F (tgt := 34) dX10_best_28 (by decide) (fun h_28 => ?_) (fun h_28 => ?_)
          · skip
            exact absurd h_28 (by decide)
          · skip
            refine q_bipush F dX10_best_31 (v := (-102)) (by decide) ?_
            refine q_perm pf10 ?_
            refine q_perm pf10 ?_
            refine q_perm pf10 ?_
            refine q_perm pf10 ?_
            refine q_perm pf10 ?_
            refine q_perm pf10 ?_
            refine q_perm pf10 ?_
            refine q_perm pf10 ?_
            refine q_perm pf10 ?_
            refine q_perm pf10 ?_
            refine q_perm pf10 ?_
            exact q_iret F hr_ dX10_best_33 (hp_ _ _ ⟨(-102), ((T, n, pf, g, (sn, B, kp, km, ku), (sn1, B1, kp1, km1, ku1), (sn2, B2, kp2, km2, ku2), (rg, O, BO, P, M, U)) : gSt), rfl, rfl, Or.inl (⟨no01 h_19 h_24, inI_hi (ge16 h_9), rfl, rfl⟩)⟩)
    · skip
      have hz_9 := Int32.not_le.mp h_9
      refine q_iconst F dX10_best_12 (v := nI 1) (by decide) ?_
      refine q_goto F (tgt := 17) dX10_best_13 (by decide) ?_
      refine q_istore_n F (lv' := [(2, .int (nI 1)), (0, .ref x), (1, .int x1)]) dX10_best_17 (by decide) rfl ?_
      refine q_iload_n F 2 dX10_best_18 rfl ?_
      refine q_if_eq F (tgt := 34) dX10_best_19 (by decide) (fun h_19 => ?_) (fun h_19 => ?_)
      · skip
        exact absurd (by rw [h_19]; decide) h_3
      · skip
        refine q_iload_n F 2 dX10_best_22 rfl ?_
        refine q_iconst F dX10_best_23 (v := nI 1) (by decide) ?_
        refine q_icmp_eq F (tgt := 34) dX10_best_24 (by decide) (fun h_24 => ?_) (fun h_24 => ?_)
        · skip
          exact absurd (by rw [h_24]; decide) h_3
        · skip
          refine q_iload_n F 0 dX10_best_27 rfl ?_
          refine q_if_ne F (tgt := 34) dX10_best_28 (by decide) (fun h_28 => ?_) (fun h_28 => ?_)
          · skip
            obtain ⟨j, hj, rfl⟩ : ∃ j, (j = 0 ∨ j = 1 ∨ ∃ i, i < 6 ∧ j = 10 + i) ∧ x1 = nI j := (by obtain ⟨i, hi, e⟩ := lt16 h_3 h_9; exact ⟨10 + i, Or.inr (Or.inr ⟨i, hi, rfl⟩), e⟩)
            refine q_aload_n F 1 dX10_best_34 rfl ?_
            refine q_perm pf10 ?_
            refine q_perm pf10 ?_
            refine q_perm pf10 ?_
            refine q_perm pf10 ?_
            refine q_perm pf10 ?_
            refine q_perm pf10 ?_
            refine q_perm pf10 ?_
            refine q_perm pf10 ?_
            refine q_perm pf10 ?_
            refine q_perm pf10 ?_
            refine q_perm pf10 ?_
            refine q_callV F (ci := 10) (As := []) (rest := []) (List.mem_append_left _ (List.mem_of_getElem? (i := 0) rfl)) rfl (c_X10_hasTown l E x q t a k u r kd T g n pf sn B kp km ku sn1 B1 kp1 km1 ku1 sn2 B2 kp2 km2 ku2 rg O BO P M U tl hH hn hq ) (List.Perm.refl _) gX10_best_X10_hasTown rfl rfl rfl hd_X10_hasTown ⟨by decide, by decide⟩ rfl (Nat.le_of_ble_eq_true rfl) dX10_best_35 ⟨Nat.le_of_ble_eq_true rfl, Nat.le_of_ble_eq_true rfl⟩ (fun v_ w_ hvw => ?_)
            rw [hvw.1, hvw.2]
            clear hvw
            refine q_at (pc' := 38) (st' := [.int (bI (decide (¬ tN T = 0)))]) (ws' := oC x (q 0) (t 0) (a 0) (k 0) (u 0) (r 0) g ++ (pC E q n pf ++ (tC E t T ++ (nC E a (t 0) sn B ++ (kC (a 1) kp km ku ++ (nC E k (t 0) sn1 B1 ++ (kC (k 1) kp1 km1 ku1 ++ (nC E u (t 0) sn2 B2 ++ (kC (u 1) kp2 km2 ku2 ++ (rC E r (t 0) kd rg O BO ++ (ksC kd P M U ++ tl))))))))))) (k' := 0) (n' := 0) rfl rfl rfl rfl rfl ?_
            refine q_if_ne F (tgt := 44) dX10_best_38 (by decide) (fun h_38 => ?_) (fun h_38 => ?_)
            · skip
              have hb_38 := bI_1 h_38
              refine q_aload_n F 1 dX10_best_44 rfl ?_
              refine q_get F (ci := 10) (j := 5) (v := .ref (r 0)) (List.mem_append_left _ (List.mem_of_getElem? (i := 0) rfl)) rfl hi10 (by decide) hf43_10 rfl rfl dX10_best_45 ?_
              refine q_aload_n F 1 dX10_best_48 rfl ?_
              refine q_get F (ci := 10) (j := 2) (v := .ref (a 0)) (List.mem_append_left _ (List.mem_of_getElem? (i := 0) rfl)) rfl hi10 (by decide) hf30_10 rfl rfl dX10_best_49 ?_
              refine q_aload_n F 1 dX10_best_52 rfl ?_
              refine q_get F (ci := 10) (j := 2) (v := .ref (a 0)) (List.mem_append_left _ (List.mem_of_getElem? (i := 0) rfl)) rfl hi10 (by decide) hf30_10 rfl rfl dX10_best_53 ?_
              refine q_get F (ci := 5) (j := 1) (v := .ref (a 1)) (List.mem_append_right _ (List.mem_append_right _ (List.mem_append_right _ (List.mem_append_left _ (List.mem_of_getElem? (i := 0) rfl))))) rfl hi5 (by decide) hf102_5 rfl rfl dX10_best_56 ?_
              refine q_get F (ci := 2) (j := 0) (v := .int kp) (List.mem_append_right _ (List.mem_append_right _ (List.mem_append_right _ (List.mem_append_right _ (List.mem_append_left _ (List.mem_of_getElem? (i := 0) rfl)))))) rfl hi2 (by decide) hf114_2 rfl rfl dX10_best_59 ?_
              refine q_perm pf10 ?_
              refine q_perm pf10 ?_
              refine q_callV F (ci := 7) (As := [.ref (a 0), .int kp]) (rest := []) (List.mem_append_left _ (List.mem_of_getElem? (i := 0) rfl)) rfl (c_X7_seekBest l E r t kd a T rg O BO P M U sn B kp km ku (oC x (q 0) (t 0) (a 0) (k 0) (u 0) (r 0) g ++ (pC E q n pf ++ (tC E t T ++ (nC E a (t 0) sn B ++ (kC (a 1) kp km ku ++ (nC E k (t 0) sn1 B1 ++ (kC (k 1) kp1 km1 ku1 ++ (nC E u (t 0) sn2 B2 ++ (kC (u 1) kp2 km2 ku2 ++ tl))))))))) (isIn.r _ (isIn.r _ (isIn.l _ _))) (isHs.r _ (isHs.r _ (isHs.r _ (isHs.r _ (isHs.r _ (isHs.r _ (isHs.r _ (isHs.r _ (isHs.r _ hH))))))))) hn (isIn.r _ (isIn.r _ (isIn.r _ (isIn.l _ _)))) (isIn.r _ (isIn.r _ (isIn.r _ (isIn.r _ (isIn.l _ _))))) hB kp) (List.Perm.refl _) gX10_best_X7_seekBest rfl rfl rfl hd_X7_seekBest ⟨by decide, by decide⟩ rfl (Nat.le_of_ble_eq_true rfl) dX10_best_62 ⟨Nat.le_of_ble_eq_true rfl, Nat.le_of_ble_eq_true rfl⟩ (fun v_ w_ hvw => ?_)
              obtain ⟨hv_, g8_4, O8_4, BO8_4, P8_4, M8_4, U8_4, hw_, ha8_4, h58_4, h68_4⟩ := hvw
              rw [hv_, hw_]
              clear hv_ hw_
              refine q_at (pc' := 65) (st' := []) (ws' := rC E r (t 0) kd g8_4 O8_4 BO8_4 ++ (ksC kd P8_4 M8_4 U8_4 ++ (oC x (q 0) (t 0) (a 0) (k 0) (u 0) (r 0) g ++ (pC E q n pf ++ (tC E t T ++ (nC E a (t 0) sn B ++ (kC (a 1) kp km ku ++ (nC E k (t 0) sn1 B1 ++ (kC (k 1) kp1 km1 ku1 ++ (nC E u (t 0) sn2 B2 ++ (kC (u 1) kp2 km2 ku2 ++ tl))))))))))) (k' := 0) (n' := 0) rfl rfl rfl rfl rfl ?_
              refine q_aload_n F 1 dX10_best_65 rfl ?_
              refine q_iload_n F 2 dX10_best_66 rfl ?_
              refine q_perm pf1 ?_
              refine q_perm pf1 ?_
              refine q_perm pf10 ?_
              refine q_perm pf10 ?_
              refine q_perm pf10 ?_
              refine q_perm pf10 ?_
              refine q_perm pf10 ?_
              refine q_perm pf10 ?_
              refine q_perm pf10 ?_
              refine q_perm pf10 ?_
              refine q_perm pf10 ?_
              refine q_callV F (ci := 10) (As := [.int (nI j)]) (rest := []) (List.mem_append_left _ (List.mem_of_getElem? (i := 0) rfl)) rfl (c_X10_toldOfBest l E x q t a k u r kd T g n pf sn B kp km ku sn1 B1 kp1 km1 ku1 sn2 B2 kp2 km2 ku2 g8_4 O8_4 BO8_4 P8_4 M8_4 U8_4 tl hH hn hq j hj) (List.Perm.refl _) gX10_best_X10_toldOfBest rfl rfl rfl hd_X10_toldOfBest ⟨by decide, by decide⟩ rfl (Nat.le_of_ble_eq_true rfl) dX10_best_67 ⟨Nat.le_of_ble_eq_true rfl, Nat.le_of_ble_eq_true rfl⟩ (fun v_ w_ hvw => ?_)
              rw [hvw.1, hvw.2]
              clear hvw
              refine q_at (pc' := 70) (st' := [.int (bsC (g8_4 7, g8_4 8, g8_4 4, BO8_4) j)]) (ws' := oC x (q 0) (t 0) (a 0) (k 0) (u 0) (r 0) g ++ (pC E q n pf ++ (tC E t T ++ (nC E a (t 0) sn B ++ (kC (a 1) kp km ku ++ (nC E k (t 0) sn1 B1 ++ (kC (k 1) kp1 km1 ku1 ++ (nC E u (t 0) sn2 B2 ++ (kC (u 1) kp2 km2 ku2 ++ (rC E r (t 0) kd g8_4 O8_4 BO8_4 ++ (ksC kd P8_4 M8_4 U8_4 ++ tl))))))))))) (k' := 0) (n' := 0) rfl rfl rfl rfl rfl ?_
              refine q_perm pf10 ?_
              refine q_perm pf10 ?_
              refine q_perm pf10 ?_
              refine q_perm pf10 ?_
              refine q_perm pf10 ?_
              refine q_perm pf10 ?_
              refine q_perm pf10 ?_
              refine q_perm pf10 ?_
              refine q_perm pf10 ?_
              refine q_perm pf10 ?_
              refine q_perm pf10 ?_
              exact q_iret F hr_ dX10_best_70 (hp_ _ _ ⟨bsC (g8_4 7, g8_4 8, g8_4 4, BO8_4) j, ((T, n, pf, g, (sn, B, kp, km, ku), (sn1, B1, kp1, km1, ku1), (sn2, B2, kp2, km2, ku2), (g8_4, O8_4, BO8_4, P8_4, M8_4, U8_4)) : gSt), rfl, rfl, Or.inr (Or.inr (⟨j, hj, rfl, (by simpa using hb_38), _, _, _, _, _, _, by rw [ha8_4], rfl⟩))⟩)
            · skip
              have hb_38 := bI_0 h_38
              refine q_bipush F dX10_best_41 (v := (-103)) (by decide) ?_
              refine q_perm pf10 ?_
              refine q_perm pf10 ?_
              refine q_perm pf10 ?_
              refine q_perm pf10 ?_
              refine q_perm pf10 ?_
              refine q_perm pf10 ?_
              refine q_perm pf10 ?_
              refine q_perm pf10 ?_
              refine q_perm pf10 ?_
              refine q_perm pf10 ?_
              refine q_perm pf10 ?_
              exact q_iret F hr_ dX10_best_43 (hp_ _ _ ⟨(-103), ((T, n, pf, g, (sn, B, kp, km, ku), (sn1, B1, kp1, km1, ku1), (sn2, B2, kp2, km2, ku2), (rg, O, BO, P, M, U)) : gSt), rfl, rfl, Or.inr (Or.inl (⟨j, hj, rfl, (by simpa using hb_38), rfl, rfl⟩))⟩)
          · skip
            exact absurd h_28 (by decide)

set_option maxHeartbeats 2000000 in
set_option maxRecDepth 100000 in
theorem c_X10_shortest (l : Launch) (E : gEnv) (x : Nat) (q t a k u r kd : Nat → Nat) (T : gTown) (g : Nat → Int32) (n : Nat) (pf : Nat → Int32) (sn : Int32) (B : Nat → Nat → Int32) (kp km ku : Int32) (sn1 : Int32) (B1 : Nat → Nat → Int32) (kp1 km1 ku1 : Int32) (sn2 : Int32) (B2 : Nat → Nat → Int32) (kp2 km2 ku2 : Int32) (rg O BO P M U : Nat → Int32) (tl : va_W) (hH : isHs T tl) (hn : tN T ≤ 6) (hq : n ≤ 30) (hB : okN T (B 2)) : Cn l E yX10_shortest wsX10_shortest (rmL 21 0 0) [.ref x] (oC x (q 0) (t 0) (a 0) (k 0) (u 0) (r 0) g ++ (pC E q n pf ++ (tC E t T ++ (nC E a (t 0) sn B ++ (kC (a 1) kp km ku ++ (nC E k (t 0) sn1 B1 ++ (kC (k 1) kp1 km1 ku1 ++ (nC E u (t 0) sn2 B2 ++ (kC (u 1) kp2 km2 ku2 ++ (rC E r (t 0) kd rg O BO ++ (ksC kd P M U ++ tl))))))))))) 0 0 (fun v w => ∃ (y : Int32) (S' : gSt), v = some (.int y) ∧ w = xW E (x, q, t, a, k, u, r, kd) S' tl ∧ ((tN T = 0 ∧ y = (-103) ∧ S' = ((T, n, pf, g, (sn, B, kp, km, ku), (sn1, B1, kp1, km1, ku1), (sn2, B2, kp2, km2, ku2), (rg, O, BO, P, M, U)) : gSt)) ∨ (¬ tN T = 0 ∧ ∃ (r1 r2 r3 r4 r5 r6 : Nat → Int32), y = shE T (shN (B 2)) kp km ku ∧ S' = ((T, n, pf, g, (sn, B, kp, km, ku), (sn1, B1, kp1, km1, ku1), (sn2, B2, kp2, km2, ku2), (r1, r2, r3, r4, r5, r6)) : gSt)))) := by
  refine Cn.of (own := RX10) (cc := cX10_shortest) (maxL := 1) (ret := (some .int)) (lv := [(0, .ref x)]) (by decide) rfl rfl (Nat.le_of_ble_eq_true rfl) rfl ?_
  intro p_ e_ s_ m_ args_ below_ meth_ c_ A_ P_ hp_ F hr_ hnm_
  have hd_X10_hasTown : yX10_hasTown.cls = RX10 ∧ yX10_hasTown.cls ≠ "java/lang/invoke/MethodHandle" ∧ yX10_hasTown.cls ≠ "java/lang/invoke/VarHandle" ∧ (parseMethodDescriptor yX10_hasTown.desc).map (fun d => d.parameters.length) = some 0 := by decide +kernel
  have hf43_10 : Cond.fieldLink RX10 43 "KeyOnStreet" (TX10 5).2.1 (TX10 5).2.2.1 ∈ wsX10_shortest := by decide +kernel
  have hi10 : ∀ w ∈ u_ws RX10 TX10 11, w ∈ wsX10_shortest := by decide +kernel
  have hf30_10 : Cond.fieldLink RX10 30 "KeyOnStreet" (TX10 2).2.1 (TX10 2).2.2.1 ∈ wsX10_shortest := by decide +kernel
  have hd_X7_seekShortest : yX7_seekShortest.cls = RX7 ∧ yX7_seekShortest.cls ≠ "java/lang/invoke/MethodHandle" ∧ yX7_seekShortest.cls ≠ "java/lang/invoke/VarHandle" ∧ (parseMethodDescriptor yX7_seekShortest.desc).map (fun d => d.parameters.length) = some 1 := by decide +kernel
  refine q_aload_n F 0 dX10_shortest_0 rfl ?_
  refine q_perm pf10 ?_
  refine q_perm pf10 ?_
  refine q_perm pf10 ?_
  refine q_perm pf10 ?_
  refine q_perm pf10 ?_
  refine q_perm pf10 ?_
  refine q_perm pf10 ?_
  refine q_perm pf10 ?_
  refine q_perm pf10 ?_
  refine q_perm pf10 ?_
  refine q_perm pf10 ?_
  refine q_callV F (ci := 10) (As := []) (rest := []) (List.mem_append_left _ (List.mem_of_getElem? (i := 0) rfl)) rfl (c_X10_hasTown l E x q t a k u r kd T g n pf sn B kp km ku sn1 B1 kp1 km1 ku1 sn2 B2 kp2 km2 ku2 rg O BO P M U tl hH hn hq ) (List.Perm.refl _) gX10_shortest_X10_hasTown rfl rfl rfl hd_X10_hasTown ⟨by decide, by decide⟩ rfl (Nat.le_of_ble_eq_true rfl) dX10_shortest_1 ⟨Nat.le_of_ble_eq_true rfl, Nat.le_of_ble_eq_true rfl⟩ (fun v_ w_ hvw => ?_)
  rw [hvw.1, hvw.2]
  clear hvw
  refine q_at (pc' := 4) (st' := [.int (bI (decide (¬ tN T = 0)))]) (ws' := oC x (q 0) (t 0) (a 0) (k 0) (u 0) (r 0) g ++ (pC E q n pf ++ (tC E t T ++ (nC E a (t 0) sn B ++ (kC (a 1) kp km ku ++ (nC E k (t 0) sn1 B1 ++ (kC (k 1) kp1 km1 ku1 ++ (nC E u (t 0) sn2 B2 ++ (kC (u 1) kp2 km2 ku2 ++ (rC E r (t 0) kd rg O BO ++ (ksC kd P M U ++ tl))))))))))) (k' := 0) (n' := 0) rfl rfl rfl rfl rfl ?_
  refine q_if_eq F (tgt := 21) dX10_shortest_4 (by decide) (fun h_4 => ?_) (fun h_4 => ?_)
  · skip
    have hb_4 := bI_0 h_4
    refine q_bipush F dX10_shortest_21 (v := (-103)) (by decide) ?_
    refine q_perm pf10 ?_
    refine q_perm pf10 ?_
    refine q_perm pf10 ?_
    refine q_perm pf10 ?_
    refine q_perm pf10 ?_
    refine q_perm pf10 ?_
    refine q_perm pf10 ?_
    refine q_perm pf10 ?_
    refine q_perm pf10 ?_
    refine q_perm pf10 ?_
    refine q_perm pf10 ?_
    exact q_iret F hr_ dX10_shortest_23 (hp_ _ _ ⟨(-103), ((T, n, pf, g, (sn, B, kp, km, ku), (sn1, B1, kp1, km1, ku1), (sn2, B2, kp2, km2, ku2), (rg, O, BO, P, M, U)) : gSt), rfl, rfl, Or.inl (⟨(by simpa using hb_4), rfl, rfl⟩)⟩)
  · skip
    have hb_4 := bI_1 h_4
    refine q_aload_n F 0 dX10_shortest_7 rfl ?_
    refine q_get F (ci := 10) (j := 5) (v := .ref (r 0)) (List.mem_append_left _ (List.mem_of_getElem? (i := 0) rfl)) rfl hi10 (by decide) hf43_10 rfl rfl dX10_shortest_8 ?_
    refine q_aload_n F 0 dX10_shortest_11 rfl ?_
    refine q_get F (ci := 10) (j := 2) (v := .ref (a 0)) (List.mem_append_left _ (List.mem_of_getElem? (i := 0) rfl)) rfl hi10 (by decide) hf30_10 rfl rfl dX10_shortest_12 ?_
    refine q_perm pf10 ?_
    refine q_perm pf10 ?_
    refine q_callV F (ci := 7) (As := [.ref (a 0)]) (rest := []) (List.mem_append_left _ (List.mem_of_getElem? (i := 0) rfl)) rfl (c_X7_seekShortest l E r t kd a T rg O BO P M U sn B kp km ku (oC x (q 0) (t 0) (a 0) (k 0) (u 0) (r 0) g ++ (pC E q n pf ++ (tC E t T ++ (nC E a (t 0) sn B ++ (kC (a 1) kp km ku ++ (nC E k (t 0) sn1 B1 ++ (kC (k 1) kp1 km1 ku1 ++ (nC E u (t 0) sn2 B2 ++ (kC (u 1) kp2 km2 ku2 ++ tl))))))))) (isIn.r _ (isIn.r _ (isIn.l _ _))) (isHs.r _ (isHs.r _ (isHs.r _ (isHs.r _ (isHs.r _ (isHs.r _ (isHs.r _ (isHs.r _ (isHs.r _ hH))))))))) hn (isIn.r _ (isIn.r _ (isIn.r _ (isIn.l _ _)))) (isIn.r _ (isIn.r _ (isIn.r _ (isIn.r _ (isIn.l _ _))))) hB ) (List.Perm.refl _) gX10_shortest_X7_seekShortest rfl rfl rfl hd_X7_seekShortest ⟨by decide, by decide⟩ rfl (Nat.le_of_ble_eq_true rfl) dX10_shortest_15 ⟨Nat.le_of_ble_eq_true rfl, Nat.le_of_ble_eq_true rfl⟩ (fun v_ w_ hvw => ?_)
    obtain ⟨hv_, g8_0, O8_0, BO8_0, P8_0, M8_0, U8_0, hw_, ha8_0, h58_0, h68_0⟩ := hvw
    rw [hv_, hw_]
    clear hv_ hw_
    refine q_at (pc' := 18) (st' := [.int ((dfC T false true 7 (shN (B 2)) kp km ku (nI 0) 0 O (ac0 BO)).2.1)]) (ws' := rC E r (t 0) kd g8_0 O8_0 BO8_0 ++ (ksC kd P8_0 M8_0 U8_0 ++ (oC x (q 0) (t 0) (a 0) (k 0) (u 0) (r 0) g ++ (pC E q n pf ++ (tC E t T ++ (nC E a (t 0) sn B ++ (kC (a 1) kp km ku ++ (nC E k (t 0) sn1 B1 ++ (kC (k 1) kp1 km1 ku1 ++ (nC E u (t 0) sn2 B2 ++ (kC (u 1) kp2 km2 ku2 ++ tl))))))))))) (k' := 0) (n' := 0) rfl rfl rfl rfl rfl ?_
    refine q_goto F (tgt := 23) dX10_shortest_18 (by decide) ?_
    refine q_perm pf1 ?_
    refine q_perm pf1 ?_
    refine q_perm pf10 ?_
    refine q_perm pf10 ?_
    refine q_perm pf10 ?_
    refine q_perm pf10 ?_
    refine q_perm pf10 ?_
    refine q_perm pf10 ?_
    refine q_perm pf10 ?_
    refine q_perm pf10 ?_
    refine q_perm pf10 ?_
    exact q_iret F hr_ dX10_shortest_23 (hp_ _ _ ⟨(dfC T false true 7 (shN (B 2)) kp km ku (nI 0) 0 O (ac0 BO)).2.1, ((T, n, pf, g, (sn, B, kp, km, ku), (sn1, B1, kp1, km1, ku1), (sn2, B2, kp2, km2, ku2), (g8_0, O8_0, BO8_0, P8_0, M8_0, U8_0)) : gSt), rfl, rfl, Or.inr (⟨(by simpa using hb_4), _, _, _, _, _, _, shE_of, rfl⟩)⟩)

set_option maxHeartbeats 2000000 in
set_option maxRecDepth 100000 in
theorem c_X10_twoKeys (l : Launch) (E : gEnv) (x : Nat) (q t a k u r kd : Nat → Nat) (T : gTown) (g : Nat → Int32) (n : Nat) (pf : Nat → Int32) (sn : Int32) (B : Nat → Nat → Int32) (kp km ku : Int32) (sn1 : Int32) (B1 : Nat → Nat → Int32) (kp1 km1 ku1 : Int32) (sn2 : Int32) (B2 : Nat → Nat → Int32) (kp2 km2 ku2 : Int32) (rg O BO P M U : Nat → Int32) (tl : va_W) (hH : isHs T tl) (hn : tN T ≤ 6) (hq : n ≤ 30) (hB : okN T (B 2)) : Cn l E yX10_twoKeys wsX10_twoKeys (rmL 21 0 0) [.ref x] (oC x (q 0) (t 0) (a 0) (k 0) (u 0) (r 0) g ++ (pC E q n pf ++ (tC E t T ++ (nC E a (t 0) sn B ++ (kC (a 1) kp km ku ++ (nC E k (t 0) sn1 B1 ++ (kC (k 1) kp1 km1 ku1 ++ (nC E u (t 0) sn2 B2 ++ (kC (u 1) kp2 km2 ku2 ++ (rC E r (t 0) kd rg O BO ++ (ksC kd P M U ++ tl))))))))))) 0 0 (fun v w => ∃ (y : Int32) (S' : gSt), v = some (.int y) ∧ w = xW E (x, q, t, a, k, u, r, kd) S' tl ∧ ((tN T = 0 ∧ y = (-103) ∧ S' = ((T, n, pf, g, (sn, B, kp, km, ku), (sn1, B1, kp1, km1, ku1), (sn2, B2, kp2, km2, ku2), (rg, O, BO, P, M, U)) : gSt)) ∨ (¬ tN T = 0 ∧ ∃ (r1 r2 r3 r4 r5 r6 : Nat → Int32), y = tkL T (shN (B 2)) kp km ku 64 ∧ S' = ((T, n, pf, g, (sn, B, kp, km, ku), (sn1, B1, kp1, km1, ku1), (sn2, B2, kp2, km2, ku2), (r1, r2, r3, r4, r5, r6)) : gSt)))) := by
  refine Cn.of (own := RX10) (cc := cX10_twoKeys) (maxL := 1) (ret := (some .int)) (lv := [(0, .ref x)]) (by decide) rfl rfl (Nat.le_of_ble_eq_true rfl) rfl ?_
  intro p_ e_ s_ m_ args_ below_ meth_ c_ A_ P_ hp_ F hr_ hnm_
  have hd_X10_hasTown : yX10_hasTown.cls = RX10 ∧ yX10_hasTown.cls ≠ "java/lang/invoke/MethodHandle" ∧ yX10_hasTown.cls ≠ "java/lang/invoke/VarHandle" ∧ (parseMethodDescriptor yX10_hasTown.desc).map (fun d => d.parameters.length) = some 0 := by decide +kernel
  have hf43_10 : Cond.fieldLink RX10 43 "KeyOnStreet" (TX10 5).2.1 (TX10 5).2.2.1 ∈ wsX10_twoKeys := by decide +kernel
  have hi10 : ∀ w ∈ u_ws RX10 TX10 11, w ∈ wsX10_twoKeys := by decide +kernel
  have hf30_10 : Cond.fieldLink RX10 30 "KeyOnStreet" (TX10 2).2.1 (TX10 2).2.2.1 ∈ wsX10_twoKeys := by decide +kernel
  have hd_X7_seekWithTwoKeys : yX7_seekWithTwoKeys.cls = RX7 ∧ yX7_seekWithTwoKeys.cls ≠ "java/lang/invoke/MethodHandle" ∧ yX7_seekWithTwoKeys.cls ≠ "java/lang/invoke/VarHandle" ∧ (parseMethodDescriptor yX7_seekWithTwoKeys.desc).map (fun d => d.parameters.length) = some 1 := by decide +kernel
  refine q_aload_n F 0 dX10_twoKeys_0 rfl ?_
  refine q_perm pf10 ?_
  refine q_perm pf10 ?_
  refine q_perm pf10 ?_
  refine q_perm pf10 ?_
  refine q_perm pf10 ?_
  refine q_perm pf10 ?_
  refine q_perm pf10 ?_
  refine q_perm pf10 ?_
  refine q_perm pf10 ?_
  refine q_perm pf10 ?_
  refine q_perm pf10 ?_
  refine q_callV F (ci := 10) (As := []) (rest := []) (List.mem_append_left _ (List.mem_of_getElem? (i := 0) rfl)) rfl (c_X10_hasTown l E x q t a k u r kd T g n pf sn B kp km ku sn1 B1 kp1 km1 ku1 sn2 B2 kp2 km2 ku2 rg O BO P M U tl hH hn hq ) (List.Perm.refl _) gX10_twoKeys_X10_hasTown rfl rfl rfl hd_X10_hasTown ⟨by decide, by decide⟩ rfl (Nat.le_of_ble_eq_true rfl) dX10_twoKeys_1 ⟨Nat.le_of_ble_eq_true rfl, Nat.le_of_ble_eq_true rfl⟩ (fun v_ w_ hvw => ?_)
  rw [hvw.1, hvw.2]
  clear hvw
  refine q_at (pc' := 4) (st' := [.int (bI (decide (¬ tN T = 0)))]) (ws' := oC x (q 0) (t 0) (a 0) (k 0) (u 0) (r 0) g ++ (pC E q n pf ++ (tC E t T ++ (nC E a (t 0) sn B ++ (kC (a 1) kp km ku ++ (nC E k (t 0) sn1 B1 ++ (kC (k 1) kp1 km1 ku1 ++ (nC E u (t 0) sn2 B2 ++ (kC (u 1) kp2 km2 ku2 ++ (rC E r (t 0) kd rg O BO ++ (ksC kd P M U ++ tl))))))))))) (k' := 0) (n' := 0) rfl rfl rfl rfl rfl ?_
  refine q_if_eq F (tgt := 21) dX10_twoKeys_4 (by decide) (fun h_4 => ?_) (fun h_4 => ?_)
  · skip
    have hb_4 := bI_0 h_4
    refine q_bipush F dX10_twoKeys_21 (v := (-103)) (by decide) ?_
    refine q_perm pf10 ?_
    refine q_perm pf10 ?_
    refine q_perm pf10 ?_
    refine q_perm pf10 ?_
    refine q_perm pf10 ?_
    refine q_perm pf10 ?_
    refine q_perm pf10 ?_
    refine q_perm pf10 ?_
    refine q_perm pf10 ?_
    refine q_perm pf10 ?_
    refine q_perm pf10 ?_
    exact q_iret F hr_ dX10_twoKeys_23 (hp_ _ _ ⟨(-103), ((T, n, pf, g, (sn, B, kp, km, ku), (sn1, B1, kp1, km1, ku1), (sn2, B2, kp2, km2, ku2), (rg, O, BO, P, M, U)) : gSt), rfl, rfl, Or.inl (⟨(by simpa using hb_4), rfl, rfl⟩)⟩)
  · skip
    have hb_4 := bI_1 h_4
    refine q_aload_n F 0 dX10_twoKeys_7 rfl ?_
    refine q_get F (ci := 10) (j := 5) (v := .ref (r 0)) (List.mem_append_left _ (List.mem_of_getElem? (i := 0) rfl)) rfl hi10 (by decide) hf43_10 rfl rfl dX10_twoKeys_8 ?_
    refine q_aload_n F 0 dX10_twoKeys_11 rfl ?_
    refine q_get F (ci := 10) (j := 2) (v := .ref (a 0)) (List.mem_append_left _ (List.mem_of_getElem? (i := 0) rfl)) rfl hi10 (by decide) hf30_10 rfl rfl dX10_twoKeys_12 ?_
    refine q_perm pf10 ?_
    refine q_perm pf10 ?_
    refine q_callV F (ci := 7) (As := [.ref (a 0)]) (rest := []) (List.mem_append_left _ (List.mem_of_getElem? (i := 0) rfl)) rfl (c_X7_seekWithTwoKeys l E r t kd a T rg O BO P M U sn B kp km ku (oC x (q 0) (t 0) (a 0) (k 0) (u 0) (r 0) g ++ (pC E q n pf ++ (tC E t T ++ (nC E a (t 0) sn B ++ (kC (a 1) kp km ku ++ (nC E k (t 0) sn1 B1 ++ (kC (k 1) kp1 km1 ku1 ++ (nC E u (t 0) sn2 B2 ++ (kC (u 1) kp2 km2 ku2 ++ tl))))))))) (isIn.r _ (isIn.r _ (isIn.l _ _))) (isHs.r _ (isHs.r _ (isHs.r _ (isHs.r _ (isHs.r _ (isHs.r _ (isHs.r _ (isHs.r _ (isHs.r _ hH))))))))) hn (isIn.r _ (isIn.r _ (isIn.r _ (isIn.l _ _)))) (isIn.r _ (isIn.r _ (isIn.r _ (isIn.r _ (isIn.l _ _))))) hB ) (List.Perm.refl _) gX10_twoKeys_X7_seekWithTwoKeys rfl rfl rfl hd_X7_seekWithTwoKeys ⟨by decide, by decide⟩ rfl (Nat.le_of_ble_eq_true rfl) dX10_twoKeys_15 ⟨Nat.le_of_ble_eq_true rfl, Nat.le_of_ble_eq_true rfl⟩ (fun v_ w_ hvw => ?_)
    obtain ⟨hv_, g8_0, O8_0, BO8_0, P8_0, M8_0, U8_0, hw_⟩ := hvw
    rw [hv_, hw_]
    clear hv_ hw_
    refine q_at (pc' := 18) (st' := [.int (tkL T (shN (B 2)) kp km ku 64)]) (ws' := rC E r (t 0) kd g8_0 O8_0 BO8_0 ++ (ksC kd P8_0 M8_0 U8_0 ++ (oC x (q 0) (t 0) (a 0) (k 0) (u 0) (r 0) g ++ (pC E q n pf ++ (tC E t T ++ (nC E a (t 0) sn B ++ (kC (a 1) kp km ku ++ (nC E k (t 0) sn1 B1 ++ (kC (k 1) kp1 km1 ku1 ++ (nC E u (t 0) sn2 B2 ++ (kC (u 1) kp2 km2 ku2 ++ tl))))))))))) (k' := 0) (n' := 0) rfl rfl rfl rfl rfl ?_
    refine q_goto F (tgt := 23) dX10_twoKeys_18 (by decide) ?_
    refine q_perm pf1 ?_
    refine q_perm pf1 ?_
    refine q_perm pf10 ?_
    refine q_perm pf10 ?_
    refine q_perm pf10 ?_
    refine q_perm pf10 ?_
    refine q_perm pf10 ?_
    refine q_perm pf10 ?_
    refine q_perm pf10 ?_
    refine q_perm pf10 ?_
    refine q_perm pf10 ?_
    exact q_iret F hr_ dX10_twoKeys_23 (hp_ _ _ ⟨tkL T (shN (B 2)) kp km ku 64, ((T, n, pf, g, (sn, B, kp, km, ku), (sn1, B1, kp1, km1, ku1), (sn2, B2, kp2, km2, ku2), (g8_0, O8_0, BO8_0, P8_0, M8_0, U8_0)) : gSt), rfl, rfl, Or.inr (⟨(by simpa using hb_4), _, _, _, _, _, _, rfl, rfl⟩)⟩)

set_option maxHeartbeats 2000000 in
set_option maxRecDepth 100000 in
theorem c_X10_hang (l : Launch) (E : gEnv) (x : Nat) (q t a k u r kd : Nat → Nat) (T : gTown) (g : Nat → Int32) (n : Nat) (pf : Nat → Int32) (sn : Int32) (B : Nat → Nat → Int32) (kp km ku : Int32) (sn1 : Int32) (B1 : Nat → Nat → Int32) (kp1 km1 ku1 : Int32) (sn2 : Int32) (B2 : Nat → Nat → Int32) (kp2 km2 ku2 : Int32) (rg O BO P M U : Nat → Int32) (tl : va_W) (hH : isHs T tl) (hn : tN T ≤ 6) (hq : n ≤ 30) (hB : okN T (B 2)) (hc : Nat) (h8 : g 8 = nI hc) (h30 : hc ≤ 30) : Cn l E yX10_hang wsX10_hang (rmL 21 0 0) [.ref x] (oC x (q 0) (t 0) (a 0) (k 0) (u 0) (r 0) g ++ (pC E q n pf ++ (tC E t T ++ (nC E a (t 0) sn B ++ (kC (a 1) kp km ku ++ (nC E k (t 0) sn1 B1 ++ (kC (k 1) kp1 km1 ku1 ++ (nC E u (t 0) sn2 B2 ++ (kC (u 1) kp2 km2 ku2 ++ (rC E r (t 0) kd rg O BO ++ (ksC kd P M U ++ tl))))))))))) 0 0 (fun v w => ∃ (y : Int32) (S' : gSt), v = some (.int y) ∧ w = xW E (x, q, t, a, k, u, r, kd) S' tl ∧ (((tN T = 0 ∨ hc = 30) ∧ y = (-103) ∧ S' = ((T, n, pf, g, (sn, B, kp, km, ku), (sn1, B1, kp1, km1, ku1), (sn2, B2, kp2, km2, ku2), (rg, O, BO, P, M, U)) : gSt)) ∨ (¬ tN T = 0 ∧ hc < 30 ∧ ∃ (r1 r2 r3 r4 r5 r6 : Nat → Int32), y = (hgC T (shN (B 2)) km ku 10).1 ∧ S' = ((T, n, pf, upd g 8 (nI (hc + 1)), (sn, B, kp, km, ku), (sn1, B1, kp1, km1, ku1), (sn2, B2, kp2, km2, ku2), (r1, r2, r3, r4, r5, r6)) : gSt)))) := by
  refine Cn.of (own := RX10) (cc := cX10_hang) (maxL := 4) (ret := (some .int)) (lv := [(0, .ref x)]) (by decide) rfl rfl (Nat.le_of_ble_eq_true rfl) rfl ?_
  intro p_ e_ s_ m_ args_ below_ meth_ c_ A_ P_ hp_ F hr_ hnm_
  have hd_X10_hasTown : yX10_hasTown.cls = RX10 ∧ yX10_hasTown.cls ≠ "java/lang/invoke/MethodHandle" ∧ yX10_hasTown.cls ≠ "java/lang/invoke/VarHandle" ∧ (parseMethodDescriptor yX10_hasTown.desc).map (fun d => d.parameters.length) = some 0 := by decide +kernel
  have hf155_10 : Cond.fieldLink RX10 155 "KeyOnStreet" (TX10 8).2.1 (TX10 8).2.2.1 ∈ wsX10_hang := by decide +kernel
  have hi10 : ∀ w ∈ u_ws RX10 TX10 11, w ∈ wsX10_hang := by decide +kernel
  have hk158 : Cond.constant RX10 158 (nI 2147483647) ∈ wsX10_hang := by decide +kernel
  have hf43_10 : Cond.fieldLink RX10 43 "KeyOnStreet" (TX10 5).2.1 (TX10 5).2.2.1 ∈ wsX10_hang := by decide +kernel
  have hf30_10 : Cond.fieldLink RX10 30 "KeyOnStreet" (TX10 2).2.1 (TX10 2).2.2.1 ∈ wsX10_hang := by decide +kernel
  have hd_X7_seekBest : yX7_seekBest.cls = RX7 ∧ yX7_seekBest.cls ≠ "java/lang/invoke/MethodHandle" ∧ yX7_seekBest.cls ≠ "java/lang/invoke/VarHandle" ∧ (parseMethodDescriptor yX7_seekBest.desc).map (fun d => d.parameters.length) = some 2 := by decide +kernel
  have hf159_7 : Cond.fieldLink RX10 159 "KeyOnStreet$Rounds" (TX7 7).2.1 (TX7 7).2.2.1 ∈ wsX10_hang := by decide +kernel
  have hi7 : ∀ w ∈ u_ws RX7 TX7 9, w ∈ wsX10_hang := by decide +kernel
  refine q_aload_n F 0 dX10_hang_0 rfl ?_
  refine q_perm pf10 ?_
  refine q_perm pf10 ?_
  refine q_perm pf10 ?_
  refine q_perm pf10 ?_
  refine q_perm pf10 ?_
  refine q_perm pf10 ?_
  refine q_perm pf10 ?_
  refine q_perm pf10 ?_
  refine q_perm pf10 ?_
  refine q_perm pf10 ?_
  refine q_perm pf10 ?_
  refine q_callV F (ci := 10) (As := []) (rest := []) (List.mem_append_left _ (List.mem_of_getElem? (i := 0) rfl)) rfl (c_X10_hasTown l E x q t a k u r kd T g n pf sn B kp km ku sn1 B1 kp1 km1 ku1 sn2 B2 kp2 km2 ku2 rg O BO P M U tl hH hn hq ) (List.Perm.refl _) gX10_hang_X10_hasTown rfl rfl rfl hd_X10_hasTown ⟨by decide, by decide⟩ rfl (Nat.le_of_ble_eq_true rfl) dX10_hang_1 ⟨Nat.le_of_ble_eq_true rfl, Nat.le_of_ble_eq_true rfl⟩ (fun v_ w_ hvw => ?_)
  rw [hvw.1, hvw.2]
  clear hvw
  refine q_at (pc' := 4) (st' := [.int (bI (decide (¬ tN T = 0)))]) (ws' := oC x (q 0) (t 0) (a 0) (k 0) (u 0) (r 0) g ++ (pC E q n pf ++ (tC E t T ++ (nC E a (t 0) sn B ++ (kC (a 1) kp km ku ++ (nC E k (t 0) sn1 B1 ++ (kC (k 1) kp1 km1 ku1 ++ (nC E u (t 0) sn2 B2 ++ (kC (u 1) kp2 km2 ku2 ++ (rC E r (t 0) kd rg O BO ++ (ksC kd P M U ++ tl))))))))))) (k' := 0) (n' := 0) rfl rfl rfl rfl rfl ?_
  refine q_if_eq F (tgt := 16) dX10_hang_4 (by decide) (fun h_4 => ?_) (fun h_4 => ?_)
  · skip
    have hb_4 := bI_0 h_4
    refine q_bipush F dX10_hang_16 (v := (-103)) (by decide) ?_
    refine q_perm pf10 ?_
    refine q_perm pf10 ?_
    refine q_perm pf10 ?_
    refine q_perm pf10 ?_
    refine q_perm pf10 ?_
    refine q_perm pf10 ?_
    refine q_perm pf10 ?_
    refine q_perm pf10 ?_
    refine q_perm pf10 ?_
    refine q_perm pf10 ?_
    refine q_perm pf10 ?_
    exact q_iret F hr_ dX10_hang_18 (hp_ _ _ ⟨(-103), ((T, n, pf, g, (sn, B, kp, km, ku), (sn1, B1, kp1, km1, ku1), (sn2, B2, kp2, km2, ku2), (rg, O, BO, P, M, U)) : gSt), rfl, rfl, Or.inl (⟨Or.inl (by simpa using hb_4), rfl, rfl⟩)⟩)
  · skip
    have hb_4 := bI_1 h_4
    refine q_aload_n F 0 dX10_hang_7 rfl ?_
    refine q_get F (ci := 10) (j := 8) (v := .int (g 8)) (List.mem_append_left _ (List.mem_of_getElem? (i := 0) rfl)) rfl hi10 (by decide) hf155_10 rfl rfl dX10_hang_8 ?_
    refine q_toi (nI hc) (h8) ?_
    refine q_bipush F dX10_hang_11 (v := nI 30) (by decide) ?_
    refine q_icmp_lt F (tgt := 19) dX10_hang_13 (by decide) (fun h_13 => ?_) (fun h_13 => ?_)
    · skip
      have hn_13 : hc < 30 := nf_lt_t (by omega) (by omega) h_13
      refine q_aload_n F 0 dX10_hang_19 rfl ?_
      refine q_dup F dX10_hang_20 rfl ?_
      refine q_get F (ci := 10) (j := 8) (v := .int (g 8)) (List.mem_append_left _ (List.mem_of_getElem? (i := 0) rfl)) rfl hi10 (by decide) hf155_10 rfl rfl dX10_hang_21 ?_
      refine q_toi (nI hc) (h8) ?_
      refine q_iconst F dX10_hang_24 (v := nI 1) (by decide) ?_
      refine q_iadd F dX10_hang_25 ?_
      refine q_toi (nI (hc + 1)) (nI_add _ _) ?_
      refine q_put F (j := 8) 0 rfl rfl hi10 tyX10 tyX10_ok nmX10 (by decide) hf155_10 rfl rfl rfl rfl (Nat.le_of_ble_eq_true rfl) dX10_hang_26 (ws' := oC x (q 0) (t 0) (a 0) (k 0) (u 0) (r 0) (upd g 8 (nI (hc + 1))) ++ (pC E q n pf ++ (tC E t T ++ (nC E a (t 0) sn B ++ (kC (a 1) kp km ku ++ (nC E k (t 0) sn1 B1 ++ (kC (k 1) kp1 km1 ku1 ++ (nC E u (t 0) sn2 B2 ++ (kC (u 1) kp2 km2 ku2 ++ (rC E r (t 0) kd rg O BO ++ (ksC kd P M U ++ tl))))))))))) rfl ?_
      refine q_ldc F hk158 dX10_hang_29 ?_
      refine q_istore_n F (lv' := [(1, .int (nI 2147483647)), (0, .ref x)]) dX10_hang_31 (by decide) rfl ?_
      refine q_iconst F dX10_hang_32 (v := nI 0) (by decide) ?_
      refine q_istore_n F (lv' := [(2, .int (nI 0)), (1, .int (nI 2147483647)), (0, .ref x)]) dX10_hang_33 (by decide) rfl ?_
      refine q_iconst F dX10_hang_34 (v := nI 0) (by decide) ?_
      refine q_istore_n F (lv' := [(3, .int (nI 0)), (2, .int (nI 0)), (1, .int (nI 2147483647)), (0, .ref x)]) dX10_hang_35 (by decide) rfl ?_
      have lb36 : ∀ (fu : Nat) (p : Nat) (g9 : Nat → Int32) (O9 : Nat → Int32) (BO9 : Nat → Int32) (P9 : Nat → Int32) (M9 : Nat → Int32) (U9 : Nat → Int32) (hp : p ≤ 10), 10 - p < fu → gW p_ l e_ (rmL 21 0 0) s_ m_ args_ below_ meth_ c_ E A_ 4 (MQ below_ (gQ E A_ P_) args_ s_ 0 0 A_) 36 [(0, .ref x), (1, .int ((hgC T (shN (B 2)) km ku p).2)), (2, .int ((hgC T (shN (B 2)) km ku p).1)), (3, .int (nI p))] [] (oC x (q 0) (t 0) (a 0) (k 0) (u 0) (r 0) (upd g 8 (nI (hc + 1))) ++ (pC E q n pf ++ (tC E t T ++ (nC E a (t 0) sn B ++ (kC (a 1) kp km ku ++ (nC E k (t 0) sn1 B1 ++ (kC (k 1) kp1 km1 ku1 ++ (nC E u (t 0) sn2 B2 ++ (kC (u 1) kp2 km2 ku2 ++ (rC E r (t 0) kd g9 O9 BO9 ++ (ksC kd P9 M9 U9 ++ tl))))))))))) 0 0 := by
        intro fu_36
        induction fu_36 with
        | zero => intro p g9 O9 BO9 P9 M9 U9 hp hfu; exact absurd hfu (Nat.not_lt_zero _)
        | succ fu_36 ih_36 =>
          intro p g9 O9 BO9 P9 M9 U9 hp hfu_36
          refine q_iload_n F 3 dX10_hang_36 rfl ?_
          refine q_bipush F dX10_hang_37 (v := nI 10) (by decide) ?_
          refine q_icmp_ge F (tgt := 81) dX10_hang_39 (by decide) (fun h_39 => ?_) (fun h_39 => ?_)
          · skip
            have hn_39 : p ≥ 10 := nf_ge_t (by omega) (by omega) h_39
            refine q_iload_n F 2 dX10_hang_81 rfl ?_
            refine q_perm pf10 ?_
            refine q_perm pf10 ?_
            refine q_perm pf10 ?_
            refine q_perm pf10 ?_
            refine q_perm pf10 ?_
            refine q_perm pf10 ?_
            refine q_perm pf10 ?_
            refine q_perm pf10 ?_
            refine q_perm pf10 ?_
            refine q_perm pf10 ?_
            refine q_perm pf10 ?_
            exact q_iret F hr_ dX10_hang_82 (hp_ _ _ ⟨(hgC T (shN (B 2)) km ku p).1, ((T, n, pf, upd g 8 (nI (hc + 1)), (sn, B, kp, km, ku), (sn1, B1, kp1, km1, ku1), (sn2, B2, kp2, km2, ku2), (g9, O9, BO9, P9, M9, U9)) : gSt), rfl, rfl, Or.inr (⟨(by simpa using hb_4), by omega, _, _, _, _, _, _, by rw [show p = 10 by omega], rfl⟩)⟩)
          · skip
            have hn_39 : p < 10 := nf_ge_f (by omega) (by omega) h_39
            refine q_aload_n F 0 dX10_hang_42 rfl ?_
            refine q_get F (ci := 10) (j := 5) (v := .ref (r 0)) (List.mem_append_left _ (List.mem_of_getElem? (i := 0) rfl)) rfl hi10 (by decide) hf43_10 rfl rfl dX10_hang_43 ?_
            refine q_aload_n F 0 dX10_hang_46 rfl ?_
            refine q_get F (ci := 10) (j := 2) (v := .ref (a 0)) (List.mem_append_left _ (List.mem_of_getElem? (i := 0) rfl)) rfl hi10 (by decide) hf30_10 rfl rfl dX10_hang_47 ?_
            refine q_iload_n F 3 dX10_hang_50 rfl ?_
            refine q_perm pf10 ?_
            refine q_perm pf10 ?_
            refine q_callV F (ci := 7) (As := [.ref (a 0), .int (nI p)]) (rest := []) (List.mem_append_left _ (List.mem_of_getElem? (i := 0) rfl)) rfl (c_X7_seekBest l E r t kd a T g9 O9 BO9 P9 M9 U9 sn B kp km ku (oC x (q 0) (t 0) (a 0) (k 0) (u 0) (r 0) (upd g 8 (nI (hc + 1))) ++ (pC E q n pf ++ (tC E t T ++ (nC E a (t 0) sn B ++ (kC (a 1) kp km ku ++ (nC E k (t 0) sn1 B1 ++ (kC (k 1) kp1 km1 ku1 ++ (nC E u (t 0) sn2 B2 ++ (kC (u 1) kp2 km2 ku2 ++ tl))))))))) (isIn.r _ (isIn.r _ (isIn.l _ _))) (isHs.r _ (isHs.r _ (isHs.r _ (isHs.r _ (isHs.r _ (isHs.r _ (isHs.r _ (isHs.r _ (isHs.r _ hH))))))))) hn (isIn.r _ (isIn.r _ (isIn.r _ (isIn.l _ _)))) (isIn.r _ (isIn.r _ (isIn.r _ (isIn.r _ (isIn.l _ _))))) hB (nI p)) (List.Perm.refl _) gX10_hang_X7_seekBest rfl rfl rfl hd_X7_seekBest ⟨by decide, by decide⟩ rfl (Nat.le_of_ble_eq_true rfl) dX10_hang_51 ⟨Nat.le_of_ble_eq_true rfl, Nat.le_of_ble_eq_true rfl⟩ (fun v_ w_ hvw => ?_)
            obtain ⟨hv_, g8_0, O8_0, BO8_0, P8_0, M8_0, U8_0, hw_, ha8_0, h58_0, h68_0⟩ := hvw
            rw [hv_, hw_]
            clear hv_ hw_
            refine q_at (pc' := 54) (st' := []) (ws' := rC E r (t 0) kd g8_0 O8_0 BO8_0 ++ (ksC kd P8_0 M8_0 U8_0 ++ (oC x (q 0) (t 0) (a 0) (k 0) (u 0) (r 0) (upd g 8 (nI (hc + 1))) ++ (pC E q n pf ++ (tC E t T ++ (nC E a (t 0) sn B ++ (kC (a 1) kp km ku ++ (nC E k (t 0) sn1 B1 ++ (kC (k 1) kp1 km1 ku1 ++ (nC E u (t 0) sn2 B2 ++ (kC (u 1) kp2 km2 ku2 ++ tl))))))))))) (k' := 0) (n' := 0) rfl rfl rfl rfl rfl ?_
            refine q_aload_n F 0 dX10_hang_54 rfl ?_
            refine q_get F (ci := 10) (j := 5) (v := .ref (r 0)) (List.mem_append_right _ (List.mem_append_right _ (List.mem_append_left _ (List.mem_of_getElem? (i := 0) rfl)))) rfl hi10 (by decide) hf43_10 rfl rfl dX10_hang_55 ?_
            refine q_get F (ci := 7) (j := 7) (v := .int (g8_0 7)) (List.mem_append_left _ (List.mem_of_getElem? (i := 0) rfl)) rfl hi7 (by decide) hf159_7 rfl rfl dX10_hang_58 ?_
            refine q_toi (beL T (shN (B 2)) (nI p) km ku) (beL_of ha8_0) ?_
            refine q_iload_n F 1 dX10_hang_61 rfl ?_
            refine q_icmp_ge F (tgt := 75) dX10_hang_62 (by decide) (fun h_62 => ?_) (fun h_62 => ?_)
            · skip
              have hz_62 := Int32.not_lt.mpr h_62
              refine q_iinc F 3 (v := nI (p + 1)) (lv' := [(3, .int (nI (p + 1))), (0, .ref x), (1, .int ((hgC T (shN (B 2)) km ku p).2)), (2, .int ((hgC T (shN (B 2)) km ku p).1))]) dX10_hang_75 rfl (nI_1 _) (by decide) rfl ?_
              refine q_goto F (tgt := 36) dX10_hang_78 (by decide) ?_
              refine q_lv [1, 2, 3, 0] (lv' := [(0, .ref x), (1, .int ((hgC T (shN (B 2)) km ku p).2)), (2, .int ((hgC T (shN (B 2)) km ku p).1)), (3, .int (nI (p + 1)))]) rfl ?_
              refine q_perm pf1 ?_
              refine q_perm pf1 ?_
              refine q_perm pf10 ?_
              refine q_perm pf10 ?_
              refine q_perm pf10 ?_
              refine q_perm pf10 ?_
              refine q_perm pf10 ?_
              refine q_perm pf10 ?_
              refine q_perm pf10 ?_
              refine q_perm pf10 ?_
              refine q_perm pf10 ?_
              refine q_to (lv' := [(0, .ref x), (1, .int ((hgC T (shN (B 2)) km ku (p + 1)).2)), (2, .int ((hgC T (shN (B 2)) km ku (p + 1)).1)), (3, .int (nI (p + 1)))]) (st' := []) (ws' := oC x (q 0) (t 0) (a 0) (k 0) (u 0) (r 0) (upd g 8 (nI (hc + 1))) ++ (pC E q n pf ++ (tC E t T ++ (nC E a (t 0) sn B ++ (kC (a 1) kp km ku ++ (nC E k (t 0) sn1 B1 ++ (kC (k 1) kp1 km1 ku1 ++ (nC E u (t 0) sn2 B2 ++ (kC (u 1) kp2 km2 ku2 ++ (rC E r (t 0) kd g8_0 O8_0 BO8_0 ++ (ksC kd P8_0 M8_0 U8_0 ++ tl))))))))))) (cE (vE (rfl)) (cE (vE (congrArg Value.int (by first | rfl | (rw [hgC, if_pos (by first | exact h_62 | exact hz_62)]) | (rw [hgC, if_neg (by first | exact h_62 | exact hz_62)])))) (cE (vE (congrArg Value.int (by first | rfl | (rw [hgC, if_pos (by first | exact h_62 | exact hz_62)]) | (rw [hgC, if_neg (by first | exact h_62 | exact hz_62)])))) (cE (vE (rfl)) rfl)))) rfl rfl ?_
              exact ih_36 (p + 1) g8_0 O8_0 BO8_0 P8_0 M8_0 U8_0 (by omega) (by omega)
            · skip
              have hz_62 := Int32.not_le.mp h_62
              refine q_aload_n F 0 dX10_hang_65 rfl ?_
              refine q_get F (ci := 10) (j := 5) (v := .ref (r 0)) (List.mem_append_right _ (List.mem_append_right _ (List.mem_append_left _ (List.mem_of_getElem? (i := 0) rfl)))) rfl hi10 (by decide) hf43_10 rfl rfl dX10_hang_66 ?_
              refine q_get F (ci := 7) (j := 7) (v := .int (g8_0 7)) (List.mem_append_left _ (List.mem_of_getElem? (i := 0) rfl)) rfl hi7 (by decide) hf159_7 rfl rfl dX10_hang_69 ?_
              refine q_toi (beL T (shN (B 2)) (nI p) km ku) (beL_of ha8_0) ?_
              refine q_istore_n F (lv' := [(1, .int (beL T (shN (B 2)) (nI p) km ku)), (0, .ref x), (2, .int ((hgC T (shN (B 2)) km ku p).1)), (3, .int (nI p))]) dX10_hang_72 (by decide) rfl ?_
              refine q_iload_n F 3 dX10_hang_73 rfl ?_
              refine q_istore_n F (lv' := [(2, .int (nI p)), (1, .int (beL T (shN (B 2)) (nI p) km ku)), (0, .ref x), (3, .int (nI p))]) dX10_hang_74 (by decide) rfl ?_
              refine q_iinc F 3 (v := nI (p + 1)) (lv' := [(3, .int (nI (p + 1))), (2, .int (nI p)), (1, .int (beL T (shN (B 2)) (nI p) km ku)), (0, .ref x)]) dX10_hang_75 rfl (nI_1 _) (by decide) rfl ?_
              refine q_goto F (tgt := 36) dX10_hang_78 (by decide) ?_
              refine q_lv [3, 2, 1, 0] (lv' := [(0, .ref x), (1, .int (beL T (shN (B 2)) (nI p) km ku)), (2, .int (nI p)), (3, .int (nI (p + 1)))]) rfl ?_
              refine q_perm pf1 ?_
              refine q_perm pf1 ?_
              refine q_perm pf10 ?_
              refine q_perm pf10 ?_
              refine q_perm pf10 ?_
              refine q_perm pf10 ?_
              refine q_perm pf10 ?_
              refine q_perm pf10 ?_
              refine q_perm pf10 ?_
              refine q_perm pf10 ?_
              refine q_perm pf10 ?_
              refine q_to (lv' := [(0, .ref x), (1, .int ((hgC T (shN (B 2)) km ku (p + 1)).2)), (2, .int ((hgC T (shN (B 2)) km ku (p + 1)).1)), (3, .int (nI (p + 1)))]) (st' := []) (ws' := oC x (q 0) (t 0) (a 0) (k 0) (u 0) (r 0) (upd g 8 (nI (hc + 1))) ++ (pC E q n pf ++ (tC E t T ++ (nC E a (t 0) sn B ++ (kC (a 1) kp km ku ++ (nC E k (t 0) sn1 B1 ++ (kC (k 1) kp1 km1 ku1 ++ (nC E u (t 0) sn2 B2 ++ (kC (u 1) kp2 km2 ku2 ++ (rC E r (t 0) kd g8_0 O8_0 BO8_0 ++ (ksC kd P8_0 M8_0 U8_0 ++ tl))))))))))) (cE (vE (rfl)) (cE (vE (congrArg Value.int (by first | rfl | (rw [hgC, if_pos (by first | exact h_62 | exact hz_62)]) | (rw [hgC, if_neg (by first | exact h_62 | exact hz_62)])))) (cE (vE (congrArg Value.int (by first | rfl | (rw [hgC, if_pos (by first | exact h_62 | exact hz_62)]) | (rw [hgC, if_neg (by first | exact h_62 | exact hz_62)])))) (cE (vE (rfl)) rfl)))) rfl rfl ?_
              exact ih_36 (p + 1) g8_0 O8_0 BO8_0 P8_0 M8_0 U8_0 (by omega) (by omega)
      refine q_lv [3, 2, 1, 0] (lv' := [(0, .ref x), (1, .int (nI 2147483647)), (2, .int (nI 0)), (3, .int (nI 0))]) rfl ?_
      refine q_perm pf10 ?_
      refine q_perm pf10 ?_
      refine q_perm pf10 ?_
      refine q_perm pf10 ?_
      refine q_perm pf10 ?_
      refine q_perm pf10 ?_
      refine q_perm pf10 ?_
      refine q_perm pf10 ?_
      refine q_perm pf10 ?_
      refine q_perm pf10 ?_
      refine q_perm pf10 ?_
      refine q_to (lv' := [(0, .ref x), (1, .int ((hgC T (shN (B 2)) km ku 0).2)), (2, .int ((hgC T (shN (B 2)) km ku 0).1)), (3, .int (nI 0))]) (st' := []) (ws' := oC x (q 0) (t 0) (a 0) (k 0) (u 0) (r 0) (upd g 8 (nI (hc + 1))) ++ (pC E q n pf ++ (tC E t T ++ (nC E a (t 0) sn B ++ (kC (a 1) kp km ku ++ (nC E k (t 0) sn1 B1 ++ (kC (k 1) kp1 km1 ku1 ++ (nC E u (t 0) sn2 B2 ++ (kC (u 1) kp2 km2 ku2 ++ (rC E r (t 0) kd rg O BO ++ (ksC kd P M U ++ tl))))))))))) (cE (vE (rfl)) (cE (vE (congrArg Value.int (by first | rfl | (rw [hgC, if_pos (by first | exact h_62 | exact hz_62)]) | (rw [hgC, if_neg (by first | exact h_62 | exact hz_62)])))) (cE (vE (congrArg Value.int (by first | rfl | (rw [hgC, if_pos (by first | exact h_62 | exact hz_62)]) | (rw [hgC, if_neg (by first | exact h_62 | exact hz_62)])))) (cE (vE (rfl)) rfl)))) rfl rfl ?_
      exact lb36 (10 - 0 + 1) 0 rg O BO P M U (by omega) (Nat.lt_succ_self _)
    · skip
      have hn_13 : hc ≥ 30 := nf_lt_f (by omega) (by omega) h_13
      refine q_bipush F dX10_hang_16 (v := (-103)) (by decide) ?_
      refine q_perm pf10 ?_
      refine q_perm pf10 ?_
      refine q_perm pf10 ?_
      refine q_perm pf10 ?_
      refine q_perm pf10 ?_
      refine q_perm pf10 ?_
      refine q_perm pf10 ?_
      refine q_perm pf10 ?_
      refine q_perm pf10 ?_
      refine q_perm pf10 ?_
      refine q_perm pf10 ?_
      exact q_iret F hr_ dX10_hang_18 (hp_ _ _ ⟨(-103), ((T, n, pf, g, (sn, B, kp, km, ku), (sn1, B1, kp1, km1, ku1), (sn2, B2, kp2, km2, ku2), (rg, O, BO, P, M, U)) : gSt), rfl, rfl, Or.inl (⟨Or.inr (by omega), rfl, rfl⟩)⟩)

set_option maxHeartbeats 2000000 in
set_option maxRecDepth 100000 in
theorem c_X10_see (l : Launch) (E : gEnv) (x : Nat) (q t a k u r kd : Nat → Nat) (T : gTown) (g : Nat → Int32) (n : Nat) (pf : Nat → Int32) (sk : Nat) (hk6 : sk ≤ 6) (B : Nat → Nat → Int32) (kp km ku : Int32) (sn1 : Int32) (B1 : Nat → Nat → Int32) (kp1 km1 ku1 : Int32) (sn2 : Int32) (B2 : Nat → Nat → Int32) (kp2 km2 ku2 : Int32) (rg O BO P M U : Nat → Int32) (tl : va_W) (hH : isHs T tl) (hn : tN T ≤ 6) (hq : n ≤ 30) (x1 x2 x3 : Int32) (hz : vp_nar .boolean x3 = x3) : Cn l E yX10_see wsX10_see (rmL 1 0 0) [.ref x, .int x1, .int x2, .int x3] (oC x (q 0) (t 0) (a 0) (k 0) (u 0) (r 0) g ++ (pC E q n pf ++ (tC E t T ++ (nC E a (t 0) (nI sk) B ++ (kC (a 1) kp km ku ++ (nC E k (t 0) sn1 B1 ++ (kC (k 1) kp1 km1 ku1 ++ (nC E u (t 0) sn2 B2 ++ (kC (u 1) kp2 km2 ku2 ++ (rC E r (t 0) kd rg O BO ++ (ksC kd P M U ++ tl))))))))))) 0 0 (fun v w => ∃ (y : Int32) (S' : gSt), v = some (.int y) ∧ w = xW E (x, q, t, a, k, u, r, kd) S' tl ∧ ((hsB (tN T) x1 = false ∧ y = (-101) ∧ S' = ((T, n, pf, g, (nI sk, B, kp, km, ku), (sn1, B1, kp1, km1, ku1), (sn2, B2, kp2, km2, ku2), (rg, O, BO, P, M, U)) : gSt)) ∨ (hsB (tN T) x1 = true ∧ inI x2 (nI 0) (nI 999) = false ∧ y = (-102) ∧ S' = ((T, n, pf, g, (nI sk, B, kp, km, ku), (sn1, B1, kp1, km1, ku1), (sn2, B2, kp2, km2, ku2), (rg, O, BO, P, M, U)) : gSt)) ∨ (∃ (h : Nat), h < tN T ∧ x1 = nI h ∧ inI x2 (nI 0) (nI 999) = true ∧ sk = 6 ∧ y = (-104) ∧ S' = ((T, n, pf, g, (nI sk, B, kp, km, ku), (sn1, B1, kp1, km1, ku1), (sn2, B2, kp2, km2, ku2), (rg, O, BO, P, M, U)) : gSt)) ∨ (∃ (h : Nat), h < tN T ∧ x1 = nI h ∧ inI x2 (nI 0) (nI 999) = true ∧ sk < 6 ∧ y = nI (sk + 1) ∧ S' = ((T, n, pf, g, (nI (sk + 1), va_up (va_up (va_up B 6 (upd (B 6) sk (nI h))) 7 (upd (B 7) sk x2)) 8 (upd (B 8) sk x3), kp, km, ku), (sn1, B1, kp1, km1, ku1), (sn2, B2, kp2, km2, ku2), (rg, O, BO, P, M, U)) : gSt)))) := by
  refine Cn.of (own := RX10) (cc := cX10_see) (maxL := 4) (ret := (some .int)) (lv := [(0, .ref x), (1, .int x1), (2, .int x2), (3, .int x3)]) (by decide) rfl rfl (Nat.le_of_ble_eq_true rfl) rfl ?_
  intro p_ e_ s_ m_ args_ below_ meth_ c_ A_ P_ hp_ F hr_ hnm_
  have hf21_10 : Cond.fieldLink RX10 21 "KeyOnStreet" (TX10 1).2.1 (TX10 1).2.2.1 ∈ wsX10_see := by decide +kernel
  have hi10 : ∀ w ∈ u_ws RX10 TX10 11, w ∈ wsX10_see := by decide +kernel
  have hd_X8_has : yX8_has.cls = RX8 ∧ yX8_has.cls ≠ "java/lang/invoke/MethodHandle" ∧ yX8_has.cls ≠ "java/lang/invoke/VarHandle" ∧ (parseMethodDescriptor yX8_has.desc).map (fun d => d.parameters.length) = some 1 := by decide +kernel
  have hf30_10 : Cond.fieldLink RX10 30 "KeyOnStreet" (TX10 2).2.1 (TX10 2).2.2.1 ∈ wsX10_see := by decide +kernel
  have hd_X5_note : yX5_note.cls = RX5 ∧ yX5_note.cls ≠ "java/lang/invoke/MethodHandle" ∧ yX5_note.cls ≠ "java/lang/invoke/VarHandle" ∧ (parseMethodDescriptor yX5_note.desc).map (fun d => d.parameters.length) = some 3 := by decide +kernel
  have hf169_5 : Cond.fieldLink RX10 169 "KeyOnStreet$Night" (TX5 9).2.1 (TX5 9).2.2.1 ∈ wsX10_see := by decide +kernel
  have hi5 : ∀ w ∈ u_ws RX5 TX5 10, w ∈ wsX10_see := by decide +kernel
  refine q_aload_n F 0 dX10_see_0 rfl ?_
  refine q_get F (ci := 10) (j := 1) (v := .ref (t 0)) (List.mem_append_left _ (List.mem_of_getElem? (i := 0) rfl)) rfl hi10 (by decide) hf21_10 rfl rfl dX10_see_1 ?_
  refine q_iload_n F 1 dX10_see_4 rfl ?_
  refine q_callV F (ci := 8) (As := [.int x1]) (rest := []) (List.mem_append_right _ (List.mem_append_right _ (List.mem_append_left _ (List.mem_of_getElem? (i := 0) rfl)))) rfl (c_X8_has l E t T (oC x (q 0) (t 0) (a 0) (k 0) (u 0) (r 0) g ++ (pC E q n pf ++ (tC E t T ++ (nC E a (t 0) (nI sk) B ++ (kC (a 1) kp km ku ++ (nC E k (t 0) sn1 B1 ++ (kC (k 1) kp1 km1 ku1 ++ (nC E u (t 0) sn2 B2 ++ (kC (u 1) kp2 km2 ku2 ++ (rC E r (t 0) kd rg O BO ++ (ksC kd P M U ++ tl))))))))))) (isIn.r _ (isIn.r _ (isIn.l _ _))) x1) (List.Perm.refl _) gX10_see_X8_has rfl rfl rfl hd_X8_has ⟨by decide, by decide⟩ rfl (Nat.le_of_ble_eq_true rfl) dX10_see_5 ⟨Nat.le_of_ble_eq_true rfl, Nat.le_of_ble_eq_true rfl⟩ (fun v_ w_ hvw => ?_)
  rw [hvw.1, hvw.2]
  clear hvw
  refine q_at (pc' := 8) (st' := [.int (bI (hsB (tN T) x1))]) (ws' := oC x (q 0) (t 0) (a 0) (k 0) (u 0) (r 0) g ++ (pC E q n pf ++ (tC E t T ++ (nC E a (t 0) (nI sk) B ++ (kC (a 1) kp km ku ++ (nC E k (t 0) sn1 B1 ++ (kC (k 1) kp1 km1 ku1 ++ (nC E u (t 0) sn2 B2 ++ (kC (u 1) kp2 km2 ku2 ++ (rC E r (t 0) kd rg O BO ++ (ksC kd P M U ++ tl))))))))))) (k' := 0) (n' := 0) rfl rfl rfl rfl rfl ?_
  refine q_if_ne F (tgt := 14) dX10_see_8 (by decide) (fun h_8 => ?_) (fun h_8 => ?_)
  · skip
    have hb_8 := bI_1 h_8
    refine q_iload_n F 2 dX10_see_14 rfl ?_
    refine q_if_lt F (tgt := 25) dX10_see_15 (by decide) (fun h_15 => ?_) (fun h_15 => ?_)
    · skip
      have hz_15 := Int32.not_le.mpr h_15
      refine q_bipush F dX10_see_25 (v := (-102)) (by decide) ?_
      refine q_perm pf10 ?_
      refine q_perm pf10 ?_
      refine q_perm pf10 ?_
      refine q_perm pf10 ?_
      refine q_perm pf10 ?_
      refine q_perm pf10 ?_
      refine q_perm pf10 ?_
      refine q_perm pf10 ?_
      refine q_perm pf10 ?_
      refine q_perm pf10 ?_
      refine q_perm pf10 ?_
      exact q_iret F hr_ dX10_see_27 (hp_ _ _ ⟨(-102), ((T, n, pf, g, (nI sk, B, kp, km, ku), (sn1, B1, kp1, km1, ku1), (sn2, B2, kp2, km2, ku2), (rg, O, BO, P, M, U)) : gSt), rfl, rfl, Or.inr (Or.inl (⟨hb_8, inI_lo h_15, rfl, rfl⟩))⟩)
    · skip
      have hz_15 := Int32.not_lt.mp h_15
      refine q_iload_n F 2 dX10_see_18 rfl ?_
      refine q_sipush F dX10_see_19 (v := nI 999) (by decide) ?_
      refine q_icmp_le F (tgt := 28) dX10_see_22 (by decide) (fun h_22 => ?_) (fun h_22 => ?_)
      · skip
        have hz_22 := Int32.not_lt.mpr h_22
        obtain ⟨h, hh, rfl⟩ := hsB_of hn hb_8
        refine q_aload_n F 0 dX10_see_28 rfl ?_
        refine q_get F (ci := 10) (j := 2) (v := .ref (a 0)) (List.mem_append_left _ (List.mem_of_getElem? (i := 0) rfl)) rfl hi10 (by decide) hf30_10 rfl rfl dX10_see_29 ?_
        refine q_iload_n F 1 dX10_see_32 rfl ?_
        refine q_iload_n F 2 dX10_see_33 rfl ?_
        refine q_iload_n F 3 dX10_see_34 rfl ?_
        rcases (show sk < 6 ∨ sk = 6 by omega) with hw6 | rfl
        · skip
          refine q_perm pf4 ?_
          refine q_perm pf4 ?_
          refine q_callV F (ci := 5) (As := [.int (nI h), .int x2, .int x3]) (rest := []) (List.mem_append_left _ (List.mem_of_getElem? (i := 0) rfl)) rfl (c_X5_note_lt l E a t T B kp km ku (oC x (q 0) (t 0) (a 0) (k 0) (u 0) (r 0) g ++ (pC E q n pf ++ (tC E t T ++ (nC E k (t 0) sn1 B1 ++ (kC (k 1) kp1 km1 ku1 ++ (nC E u (t 0) sn2 B2 ++ (kC (u 1) kp2 km2 ku2 ++ (rC E r (t 0) kd rg O BO ++ (ksC kd P M U ++ tl))))))))) (isIn.r _ (isIn.r _ (isIn.l _ _))) (isHs.r _ (isHs.r _ (isHs.r _ (isHs.r _ (isHs.r _ (isHs.r _ (isHs.r _ (isHs.r _ (isHs.r _ hH))))))))) hn sk hw6 (nI h) x2 x3 hz) (List.Perm.refl _) gX10_see_X5_note rfl rfl rfl hd_X5_note ⟨by decide, by decide⟩ rfl (Nat.le_of_ble_eq_true rfl) dX10_see_35 ⟨Nat.le_of_ble_eq_true rfl, Nat.le_of_ble_eq_true rfl⟩ (fun v_ w_ hvw => ?_)
          rw [hvw.1, hvw.2]
          clear hvw
          refine q_at (pc' := 38) (st' := [.int (nI 1)]) (ws' := nC E a (t 0) (nI (sk + 1)) (va_up (va_up (va_up B 6 (upd (B 6) sk (nI h))) 7 (upd (B 7) sk x2)) 8 (upd (B 8) sk x3)) ++ (kC (a 1) kp km ku ++ (oC x (q 0) (t 0) (a 0) (k 0) (u 0) (r 0) g ++ (pC E q n pf ++ (tC E t T ++ (nC E k (t 0) sn1 B1 ++ (kC (k 1) kp1 km1 ku1 ++ (nC E u (t 0) sn2 B2 ++ (kC (u 1) kp2 km2 ku2 ++ (rC E r (t 0) kd rg O BO ++ (ksC kd P M U ++ tl))))))))))) (k' := 0) (n' := 0) rfl rfl rfl rfl rfl ?_
          refine q_if_eq F (tgt := 51) dX10_see_38 (by decide) (fun h_38 => ?_) (fun h_38 => ?_)
          · skip
            exact absurd h_38 (by decide)
          · skip
            refine q_aload_n F 0 dX10_see_41 rfl ?_
            refine q_get F (ci := 10) (j := 2) (v := .ref (a 0)) (List.mem_append_right _ (List.mem_append_right _ (List.mem_append_left _ (List.mem_of_getElem? (i := 0) rfl)))) rfl hi10 (by decide) hf30_10 rfl rfl dX10_see_42 ?_
            refine q_get F (ci := 5) (j := 9) (v := .int (nI (sk + 1))) (List.mem_append_left _ (List.mem_of_getElem? (i := 0) rfl)) rfl hi5 (by decide) hf169_5 rfl rfl dX10_see_45 ?_
            refine q_goto F (tgt := 53) dX10_see_48 (by decide) ?_
            refine q_perm pf10 ?_
            refine q_perm pf10 ?_
            refine q_perm pf10 ?_
            refine q_perm pf10 ?_
            refine q_perm pf10 ?_
            refine q_perm pf10 ?_
            refine q_perm pf7 ?_
            refine q_perm pf7 ?_
            refine q_perm pf10 ?_
            refine q_perm pf10 ?_
            refine q_perm pf10 ?_
            exact q_iret F hr_ dX10_see_53 (hp_ _ _ ⟨nI (sk + 1), ((T, n, pf, g, (nI (sk + 1), va_up (va_up (va_up B 6 (upd (B 6) sk (nI h))) 7 (upd (B 7) sk x2)) 8 (upd (B 8) sk x3), kp, km, ku), (sn1, B1, kp1, km1, ku1), (sn2, B2, kp2, km2, ku2), (rg, O, BO, P, M, U)) : gSt), rfl, rfl, Or.inr (Or.inr (Or.inr (⟨h, hh, rfl, inI_t (lo := nI 0) h_15 hz_22, hw6, rfl, rfl⟩)))⟩)
        · skip
          refine q_perm pf4 ?_
          refine q_perm pf4 ?_
          refine q_callV F (ci := 5) (As := [.int (nI h), .int x2, .int x3]) (rest := []) (List.mem_append_left _ (List.mem_of_getElem? (i := 0) rfl)) rfl (c_X5_note_full l E a t T B kp km ku (oC x (q 0) (t 0) (a 0) (k 0) (u 0) (r 0) g ++ (pC E q n pf ++ (tC E t T ++ (nC E k (t 0) sn1 B1 ++ (kC (k 1) kp1 km1 ku1 ++ (nC E u (t 0) sn2 B2 ++ (kC (u 1) kp2 km2 ku2 ++ (rC E r (t 0) kd rg O BO ++ (ksC kd P M U ++ tl))))))))) (isIn.r _ (isIn.r _ (isIn.l _ _))) (isHs.r _ (isHs.r _ (isHs.r _ (isHs.r _ (isHs.r _ (isHs.r _ (isHs.r _ (isHs.r _ (isHs.r _ hH))))))))) hn (nI h) x2 x3) (List.Perm.refl _) gX10_see_X5_note rfl rfl rfl hd_X5_note ⟨by decide, by decide⟩ rfl (Nat.le_of_ble_eq_true rfl) dX10_see_35 ⟨Nat.le_of_ble_eq_true rfl, Nat.le_of_ble_eq_true rfl⟩ (fun v_ w_ hvw => ?_)
          rw [hvw.1, hvw.2]
          clear hvw
          refine q_at (pc' := 38) (st' := [.int (nI 0)]) (ws' := nC E a (t 0) (nI 6) B ++ (kC (a 1) kp km ku ++ (oC x (q 0) (t 0) (a 0) (k 0) (u 0) (r 0) g ++ (pC E q n pf ++ (tC E t T ++ (nC E k (t 0) sn1 B1 ++ (kC (k 1) kp1 km1 ku1 ++ (nC E u (t 0) sn2 B2 ++ (kC (u 1) kp2 km2 ku2 ++ (rC E r (t 0) kd rg O BO ++ (ksC kd P M U ++ tl))))))))))) (k' := 0) (n' := 0) rfl rfl rfl rfl rfl ?_
          refine q_if_eq F (tgt := 51) dX10_see_38 (by decide) (fun h_38 => ?_) (fun h_38 => ?_)
          · skip
            refine q_bipush F dX10_see_51 (v := (-104)) (by decide) ?_
            refine q_perm pf10 ?_
            refine q_perm pf10 ?_
            refine q_perm pf10 ?_
            refine q_perm pf10 ?_
            refine q_perm pf10 ?_
            refine q_perm pf10 ?_
            refine q_perm pf7 ?_
            refine q_perm pf7 ?_
            refine q_perm pf10 ?_
            refine q_perm pf10 ?_
            refine q_perm pf10 ?_
            exact q_iret F hr_ dX10_see_53 (hp_ _ _ ⟨(-104), ((T, n, pf, g, (nI 6, B, kp, km, ku), (sn1, B1, kp1, km1, ku1), (sn2, B2, kp2, km2, ku2), (rg, O, BO, P, M, U)) : gSt), rfl, rfl, Or.inr (Or.inr (Or.inl (⟨h, hh, rfl, inI_t (lo := nI 0) h_15 hz_22, rfl, rfl, rfl⟩)))⟩)
          · skip
            exact absurd h_38 (by decide)
      · skip
        have hz_22 := Int32.not_le.mp h_22
        refine q_bipush F dX10_see_25 (v := (-102)) (by decide) ?_
        refine q_perm pf10 ?_
        refine q_perm pf10 ?_
        refine q_perm pf10 ?_
        refine q_perm pf10 ?_
        refine q_perm pf10 ?_
        refine q_perm pf10 ?_
        refine q_perm pf10 ?_
        refine q_perm pf10 ?_
        refine q_perm pf10 ?_
        refine q_perm pf10 ?_
        refine q_perm pf10 ?_
        exact q_iret F hr_ dX10_see_27 (hp_ _ _ ⟨(-102), ((T, n, pf, g, (nI sk, B, kp, km, ku), (sn1, B1, kp1, km1, ku1), (sn2, B2, kp2, km2, ku2), (rg, O, BO, P, M, U)) : gSt), rfl, rfl, Or.inr (Or.inl (⟨hb_8, inI_hi hz_22, rfl, rfl⟩))⟩)
  · skip
    have hb_8 := bI_0 h_8
    refine q_bipush F dX10_see_11 (v := (-101)) (by decide) ?_
    refine q_perm pf10 ?_
    refine q_perm pf10 ?_
    refine q_perm pf10 ?_
    refine q_perm pf10 ?_
    refine q_perm pf10 ?_
    refine q_perm pf10 ?_
    refine q_perm pf10 ?_
    refine q_perm pf10 ?_
    refine q_perm pf10 ?_
    refine q_perm pf10 ?_
    refine q_perm pf10 ?_
    exact q_iret F hr_ dX10_see_13 (hp_ _ _ ⟨(-101), ((T, n, pf, g, (nI sk, B, kp, km, ku), (sn1, B1, kp1, km1, ku1), (sn2, B2, kp2, km2, ku2), (rg, O, BO, P, M, U)) : gSt), rfl, rfl, Or.inl (⟨by simpa using hb_8, rfl, rfl⟩)⟩)

set_option maxHeartbeats 2000000 in
set_option maxRecDepth 100000 in
theorem c_X10_forget (l : Launch) (E : gEnv) (x : Nat) (q t a k u r kd : Nat → Nat) (T : gTown) (g : Nat → Int32) (n : Nat) (pf : Nat → Int32) (sn : Int32) (B : Nat → Nat → Int32) (kp km ku : Int32) (sn1 : Int32) (B1 : Nat → Nat → Int32) (kp1 km1 ku1 : Int32) (sn2 : Int32) (B2 : Nat → Nat → Int32) (kp2 km2 ku2 : Int32) (rg O BO P M U : Nat → Int32) (tl : va_W) (hH : isHs T tl) (hn : tN T ≤ 6) (hq : n ≤ 30) : Cn l E yX10_forget wsX10_forget (rmL 0 0 0) [.ref x] (oC x (q 0) (t 0) (a 0) (k 0) (u 0) (r 0) g ++ (pC E q n pf ++ (tC E t T ++ (nC E a (t 0) sn B ++ (kC (a 1) kp km ku ++ (nC E k (t 0) sn1 B1 ++ (kC (k 1) kp1 km1 ku1 ++ (nC E u (t 0) sn2 B2 ++ (kC (u 1) kp2 km2 ku2 ++ (rC E r (t 0) kd rg O BO ++ (ksC kd P M U ++ tl))))))))))) 0 0 (fun v w => ∃ (y : Int32) (S' : gSt), v = some (.int y) ∧ w = xW E (x, q, t, a, k, u, r, kd) S' tl ∧ ((y = sn ∧ S' = ((T, n, pf, g, (nI 0, B, kp, km, ku), (sn1, B1, kp1, km1, ku1), (sn2, B2, kp2, km2, ku2), (rg, O, BO, P, M, U)) : gSt)))) := by
  refine Cn.of (own := RX10) (cc := cX10_forget) (maxL := 2) (ret := (some .int)) (lv := [(0, .ref x)]) (by decide) rfl rfl (Nat.le_of_ble_eq_true rfl) rfl ?_
  intro p_ e_ s_ m_ args_ below_ meth_ c_ A_ P_ hp_ F hr_ hnm_
  have hf30_10 : Cond.fieldLink RX10 30 "KeyOnStreet" (TX10 2).2.1 (TX10 2).2.2.1 ∈ wsX10_forget := by decide +kernel
  have hi10 : ∀ w ∈ u_ws RX10 TX10 11, w ∈ wsX10_forget := by decide +kernel
  have hf169_5 : Cond.fieldLink RX10 169 "KeyOnStreet$Night" (TX5 9).2.1 (TX5 9).2.2.1 ∈ wsX10_forget := by decide +kernel
  have hi5 : ∀ w ∈ u_ws RX5 TX5 10, w ∈ wsX10_forget := by decide +kernel
  refine q_aload_n F 0 dX10_forget_0 rfl ?_
  refine q_get F (ci := 10) (j := 2) (v := .ref (a 0)) (List.mem_append_left _ (List.mem_of_getElem? (i := 0) rfl)) rfl hi10 (by decide) hf30_10 rfl rfl dX10_forget_1 ?_
  refine q_get F (ci := 5) (j := 9) (v := .int sn) (List.mem_append_right _ (List.mem_append_right _ (List.mem_append_right _ (List.mem_append_left _ (List.mem_of_getElem? (i := 0) rfl))))) rfl hi5 (by decide) hf169_5 rfl rfl dX10_forget_4 ?_
  refine q_istore_n F (lv' := [(1, .int sn), (0, .ref x)]) dX10_forget_7 (by decide) rfl ?_
  refine q_aload_n F 1 dX10_forget_8 rfl ?_
  refine q_get F (ci := 10) (j := 2) (v := .ref (a 0)) (List.mem_append_left _ (List.mem_of_getElem? (i := 0) rfl)) rfl hi10 (by decide) hf30_10 rfl rfl dX10_forget_9 ?_
  refine q_iconst F dX10_forget_12 (v := nI 0) (by decide) ?_
  refine q_perm pf3 ?_
  refine q_put F (j := 9) 0 rfl rfl hi5 tyX5 tyX5_ok nmX5 (by decide) hf169_5 rfl rfl rfl rfl (Nat.le_of_ble_eq_true rfl) dX10_forget_13 (ws' := nC E a (t 0) (nI 0) B ++ (oC x (q 0) (t 0) (a 0) (k 0) (u 0) (r 0) g ++ (pC E q n pf ++ (tC E t T ++ (kC (a 1) kp km ku ++ (nC E k (t 0) sn1 B1 ++ (kC (k 1) kp1 km1 ku1 ++ (nC E u (t 0) sn2 B2 ++ (kC (u 1) kp2 km2 ku2 ++ (rC E r (t 0) kd rg O BO ++ (ksC kd P M U ++ tl))))))))))) rfl ?_
  refine q_iload_n F 0 dX10_forget_16 rfl ?_
  refine q_perm pf10 ?_
  refine q_perm pf10 ?_
  refine q_perm pf10 ?_
  refine q_perm pf10 ?_
  refine q_perm pf10 ?_
  refine q_perm pf10 ?_
  refine q_perm pf10 ?_
  refine q_perm pf7 ?_
  refine q_perm pf10 ?_
  refine q_perm pf10 ?_
  refine q_perm pf10 ?_
  exact q_iret F hr_ dX10_forget_17 (hp_ _ _ ⟨sn, ((T, n, pf, g, (nI 0, B, kp, km, ku), (sn1, B1, kp1, km1, ku1), (sn2, B2, kp2, km2, ku2), (rg, O, BO, P, M, U)) : gSt), rfl, rfl, ⟨rfl, rfl⟩⟩)

set_option maxHeartbeats 2000000 in
set_option maxRecDepth 100000 in
theorem c_X10_seekGuesses (l : Launch) (E : gEnv) (x : Nat) (q t a k u r kd : Nat → Nat) (T : gTown) (g : Nat → Int32) (n : Nat) (pf : Nat → Int32) (sk : Nat) (hk6 : sk ≤ 6) (B : Nat → Nat → Int32) (kp km ku : Int32) (sn1 : Int32) (B1 : Nat → Nat → Int32) (kp1 km1 ku1 : Int32) (sn2 : Int32) (B2 : Nat → Nat → Int32) (kp2 km2 ku2 : Int32) (rg O BO P M U : Nat → Int32) (tl : va_W) (hH : isHs T tl) (hn : tN T ≤ 6) (hq : n ≤ 30) (hz : okZ (B 8)) : Cn l E yX10_seekGuesses wsX10_seekGuesses (rmL 5 0 0) [.ref x] (oC x (q 0) (t 0) (a 0) (k 0) (u 0) (r 0) g ++ (pC E q n pf ++ (tC E t T ++ (nC E a (t 0) (nI sk) B ++ (kC (a 1) kp km ku ++ (nC E k (t 0) sn1 B1 ++ (kC (k 1) kp1 km1 ku1 ++ (nC E u (t 0) sn2 B2 ++ (kC (u 1) kp2 km2 ku2 ++ (rC E r (t 0) kd rg O BO ++ (ksC kd P M U ++ tl))))))))))) 0 0 (fun v w => v = none ∧ ∃ (z1 : Int32) (z2 : Nat → Nat → Int32) (z3 z4 z5 : Int32), w = oC x (q 0) (t 0) (a 0) (k 0) (u 0) (r 0) (upd (upd g 9 (gsC T B sk 30).1) 10 (gsC T B sk 30).2) ++ (pC E q n pf ++ (tC E t T ++ (nC E a (t 0) (nI sk) B ++ (kC (a 1) kp km ku ++ (nC E k (t 0) sn1 B1 ++ (kC (k 1) kp1 km1 ku1 ++ (nC E u (t 0) z1 z2 ++ (kC (u 1) z3 z4 z5 ++ (rC E r (t 0) kd rg O BO ++ (ksC kd P M U ++ tl))))))))))) := by
  refine Cn.of (own := RX10) (cc := cX10_seekGuesses) (maxL := 2) (ret := none) (lv := [(0, .ref x)]) (by decide) rfl rfl (Nat.le_of_ble_eq_true rfl) rfl ?_
  intro p_ e_ s_ m_ args_ below_ meth_ c_ A_ P_ hp_ F hr_ hnm_
  have hf175_10 : Cond.fieldLink RX10 175 "KeyOnStreet" (TX10 9).2.1 (TX10 9).2.2.1 ∈ wsX10_seekGuesses := by decide +kernel
  have hi10 : ∀ w ∈ u_ws RX10 TX10 11, w ∈ wsX10_seekGuesses := by decide +kernel
  have hf178_10 : Cond.fieldLink RX10 178 "KeyOnStreet" (TX10 10).2.1 (TX10 10).2.2.1 ∈ wsX10_seekGuesses := by decide +kernel
  have hf37_10 : Cond.fieldLink RX10 37 "KeyOnStreet" (TX10 4).2.1 (TX10 4).2.2.1 ∈ wsX10_seekGuesses := by decide +kernel
  have hf30_10 : Cond.fieldLink RX10 30 "KeyOnStreet" (TX10 2).2.1 (TX10 2).2.2.1 ∈ wsX10_seekGuesses := by decide +kernel
  have hd_X5_copyFrom : yX5_copyFrom.cls = RX5 ∧ yX5_copyFrom.cls ≠ "java/lang/invoke/MethodHandle" ∧ yX5_copyFrom.cls ≠ "java/lang/invoke/VarHandle" ∧ (parseMethodDescriptor yX5_copyFrom.desc).map (fun d => d.parameters.length) = some 1 := by decide +kernel
  have hd_X5_nobodyWasIn : yX5_nobodyWasIn.cls = RX5 ∧ yX5_nobodyWasIn.cls ≠ "java/lang/invoke/MethodHandle" ∧ yX5_nobodyWasIn.cls ≠ "java/lang/invoke/VarHandle" ∧ (parseMethodDescriptor yX5_nobodyWasIn.desc).map (fun d => d.parameters.length) = some 0 := by decide +kernel
  have hf102_5 : Cond.fieldLink RX10 102 "KeyOnStreet$Night" (TX5 1).2.1 (TX5 1).2.2.1 ∈ wsX10_seekGuesses := by decide +kernel
  have hi5 : ∀ w ∈ u_ws RX5 TX5 10, w ∈ wsX10_seekGuesses := by decide +kernel
  have hd_X2_put : yX2_put.cls = RX2 ∧ yX2_put.cls ≠ "java/lang/invoke/MethodHandle" ∧ yX2_put.cls ≠ "java/lang/invoke/VarHandle" ∧ (parseMethodDescriptor yX2_put.desc).map (fun d => d.parameters.length) = some 3 := by decide +kernel
  have hd_X5_letAllIn : yX5_letAllIn.cls = RX5 ∧ yX5_letAllIn.cls ≠ "java/lang/invoke/MethodHandle" ∧ yX5_letAllIn.cls ≠ "java/lang/invoke/VarHandle" ∧ (parseMethodDescriptor yX5_letAllIn.desc).map (fun d => d.parameters.length) = some 1 := by decide +kernel
  have hd_X5_isAsSeen : yX5_isAsSeen.cls = RX5 ∧ yX5_isAsSeen.cls ≠ "java/lang/invoke/MethodHandle" ∧ yX5_isAsSeen.cls ≠ "java/lang/invoke/VarHandle" ∧ (parseMethodDescriptor yX5_isAsSeen.desc).map (fun d => d.parameters.length) = some 0 := by decide +kernel
  refine q_aload_n F 0 dX10_seekGuesses_0 rfl ?_
  refine q_iconst F dX10_seekGuesses_1 (v := nI 0) (by decide) ?_
  refine q_put F (j := 9) 0 rfl rfl hi10 tyX10 tyX10_ok nmX10 (by decide) hf175_10 rfl rfl rfl rfl (Nat.le_of_ble_eq_true rfl) dX10_seekGuesses_2 (ws' := oC x (q 0) (t 0) (a 0) (k 0) (u 0) (r 0) (upd g 9 (nI 0)) ++ (pC E q n pf ++ (tC E t T ++ (nC E a (t 0) (nI sk) B ++ (kC (a 1) kp km ku ++ (nC E k (t 0) sn1 B1 ++ (kC (k 1) kp1 km1 ku1 ++ (nC E u (t 0) sn2 B2 ++ (kC (u 1) kp2 km2 ku2 ++ (rC E r (t 0) kd rg O BO ++ (ksC kd P M U ++ tl))))))))))) rfl ?_
  refine q_aload_n F 0 dX10_seekGuesses_5 rfl ?_
  refine q_iconst F dX10_seekGuesses_6 (v := (-1)) (by decide) ?_
  refine q_put F (j := 10) 0 rfl rfl hi10 tyX10 tyX10_ok nmX10 (by decide) hf178_10 rfl rfl rfl rfl (Nat.le_of_ble_eq_true rfl) dX10_seekGuesses_7 (ws' := oC x (q 0) (t 0) (a 0) (k 0) (u 0) (r 0) (upd (upd g 9 (nI 0)) 10 (-1)) ++ (pC E q n pf ++ (tC E t T ++ (nC E a (t 0) (nI sk) B ++ (kC (a 1) kp km ku ++ (nC E k (t 0) sn1 B1 ++ (kC (k 1) kp1 km1 ku1 ++ (nC E u (t 0) sn2 B2 ++ (kC (u 1) kp2 km2 ku2 ++ (rC E r (t 0) kd rg O BO ++ (ksC kd P M U ++ tl))))))))))) rfl ?_
  refine q_iconst F dX10_seekGuesses_10 (v := nI 0) (by decide) ?_
  refine q_istore_n F (lv' := [(1, .int (nI 0)), (0, .ref x)]) dX10_seekGuesses_11 (by decide) rfl ?_
  have lb12 : ∀ (fu : Nat) (c : Nat) (sn9 : Int32) (B9 : Nat → Nat → Int32) (kp9 : Int32) (km9 : Int32) (ku9 : Int32) (hc30 : c ≤ 30), 30 - c < fu → gW p_ l e_ (rmL 5 0 0) s_ m_ args_ below_ meth_ c_ E A_ 2 (MQ below_ (gQ E A_ P_) args_ s_ 0 0 A_) 12 [(0, .ref x), (1, .int (nI c))] [] (oC x (q 0) (t 0) (a 0) (k 0) (u 0) (r 0) (upd (upd g 9 (gsC T B sk c).1) 10 (gsC T B sk c).2) ++ (pC E q n pf ++ (tC E t T ++ (nC E a (t 0) (nI sk) B ++ (kC (a 1) kp km ku ++ (nC E k (t 0) sn1 B1 ++ (kC (k 1) kp1 km1 ku1 ++ (nC E u (t 0) sn9 B9 ++ (kC (u 1) kp9 km9 ku9 ++ (rC E r (t 0) kd rg O BO ++ (ksC kd P M U ++ tl))))))))))) 0 0 := by
    intro fu_12
    induction fu_12 with
    | zero => intro c sn9 B9 kp9 km9 ku9 hc30 hfu; exact absurd hfu (Nat.not_lt_zero _)
    | succ fu_12 ih_12 =>
      intro c sn9 B9 kp9 km9 ku9 hc30 hfu_12
      refine q_iload_n F 1 dX10_seekGuesses_12 rfl ?_
      refine q_bipush F dX10_seekGuesses_13 (v := nI 30) (by decide) ?_
      refine q_icmp_ge F (tgt := 107) dX10_seekGuesses_15 (by decide) (fun h_15 => ?_) (fun h_15 => ?_)
      · skip
        have hn_15 : c ≥ 30 := nf_ge_t (by omega) (by omega) h_15
        refine q_perm pf10 ?_
        refine q_perm pf10 ?_
        refine q_perm pf10 ?_
        refine q_perm pf10 ?_
        refine q_perm pf10 ?_
        refine q_perm pf10 ?_
        refine q_perm pf10 ?_
        refine q_perm pf10 ?_
        refine q_perm pf10 ?_
        refine q_perm pf10 ?_
        refine q_perm pf10 ?_
        obtain rfl : c = 30 := by omega
        exact q_vret F hr_ dX10_seekGuesses_107 (hp_ _ _ ⟨rfl, sn9, B9, kp9, km9, ku9, rfl⟩)
      · skip
        have hn_15 : c < 30 := nf_ge_f (by omega) (by omega) h_15
        refine q_aload_n F 0 dX10_seekGuesses_18 rfl ?_
        refine q_get F (ci := 10) (j := 4) (v := .ref (u 0)) (List.mem_append_left _ (List.mem_of_getElem? (i := 0) rfl)) rfl hi10 (by decide) hf37_10 rfl rfl dX10_seekGuesses_19 ?_
        refine q_aload_n F 0 dX10_seekGuesses_22 rfl ?_
        refine q_get F (ci := 10) (j := 2) (v := .ref (a 0)) (List.mem_append_left _ (List.mem_of_getElem? (i := 0) rfl)) rfl hi10 (by decide) hf30_10 rfl rfl dX10_seekGuesses_23 ?_
        refine q_perm pf8 ?_
        refine q_perm pf8 ?_
        refine q_callV F (ci := 5) (As := [.ref (a 0)]) (rest := []) (List.mem_append_left _ (List.mem_of_getElem? (i := 0) rfl)) rfl (c_X5_copyFrom l E u t T sn9 B9 kp9 km9 ku9 (oC x (q 0) (t 0) (a 0) (k 0) (u 0) (r 0) (upd (upd g 9 (gsC T B sk c).1) 10 (gsC T B sk c).2) ++ (pC E q n pf ++ (tC E t T ++ (nC E a (t 0) (nI sk) B ++ (kC (a 1) kp km ku ++ (nC E k (t 0) sn1 B1 ++ (kC (k 1) kp1 km1 ku1 ++ (rC E r (t 0) kd rg O BO ++ (ksC kd P M U ++ tl))))))))) (isIn.r _ (isIn.r _ (isIn.l _ _))) (isHs.r _ (isHs.r _ (isHs.r _ (isHs.r _ (isHs.r _ (isHs.r _ (isHs.r _ (isHs.r _ (isHs.r _ hH))))))))) hn a (t 0) (nI sk) B kp km ku (isIn.r _ (isIn.r _ (isIn.r _ (isIn.l _ _)))) (isIn.r _ (isIn.r _ (isIn.r _ (isIn.r _ (isIn.l _ _))))) hz) (List.Perm.refl _) gX10_seekGuesses_X5_copyFrom rfl rfl rfl hd_X5_copyFrom ⟨by decide, by decide⟩ rfl (Nat.le_of_ble_eq_true rfl) dX10_seekGuesses_26 ⟨Nat.le_of_ble_eq_true rfl, Nat.le_of_ble_eq_true rfl⟩ (fun v_ w_ hvw => ?_)
        rw [hvw.1, hvw.2]
        clear hvw
        refine q_at (pc' := 29) (st' := []) (ws' := nC E u (t 0) (nI sk) B ++ (kC (u 1) kp km ku ++ (oC x (q 0) (t 0) (a 0) (k 0) (u 0) (r 0) (upd (upd g 9 (gsC T B sk c).1) 10 (gsC T B sk c).2) ++ (pC E q n pf ++ (tC E t T ++ (nC E a (t 0) (nI sk) B ++ (kC (a 1) kp km ku ++ (nC E k (t 0) sn1 B1 ++ (kC (k 1) kp1 km1 ku1 ++ (rC E r (t 0) kd rg O BO ++ (ksC kd P M U ++ tl))))))))))) (k' := 0) (n' := 0) rfl rfl rfl rfl rfl ?_
        refine q_aload_n F 0 dX10_seekGuesses_29 rfl ?_
        refine q_get F (ci := 10) (j := 4) (v := .ref (u 0)) (List.mem_append_right _ (List.mem_append_right _ (List.mem_append_left _ (List.mem_of_getElem? (i := 0) rfl)))) rfl hi10 (by decide) hf37_10 rfl rfl dX10_seekGuesses_30 ?_
        refine q_perm pf1 ?_
        refine q_perm pf1 ?_
        refine q_callV F (ci := 5) (As := []) (rest := []) (List.mem_append_left _ (List.mem_of_getElem? (i := 0) rfl)) rfl (c_X5_nobodyWasIn l E u t T (nI sk) B kp km ku (oC x (q 0) (t 0) (a 0) (k 0) (u 0) (r 0) (upd (upd g 9 (gsC T B sk c).1) 10 (gsC T B sk c).2) ++ (pC E q n pf ++ (tC E t T ++ (nC E a (t 0) (nI sk) B ++ (kC (a 1) kp km ku ++ (nC E k (t 0) sn1 B1 ++ (kC (k 1) kp1 km1 ku1 ++ (rC E r (t 0) kd rg O BO ++ (ksC kd P M U ++ tl))))))))) (isIn.r _ (isIn.r _ (isIn.l _ _))) (isHs.r _ (isHs.r _ (isHs.r _ (isHs.r _ (isHs.r _ (isHs.r _ (isHs.r _ (isHs.r _ (isHs.r _ hH))))))))) hn ) (List.Perm.refl _) gX10_seekGuesses_X5_nobodyWasIn rfl rfl rfl hd_X5_nobodyWasIn ⟨by decide, by decide⟩ rfl (Nat.le_of_ble_eq_true rfl) dX10_seekGuesses_33 ⟨Nat.le_of_ble_eq_true rfl, Nat.le_of_ble_eq_true rfl⟩ (fun v_ w_ hvw => ?_)
        rw [hvw.1, hvw.2]
        clear hvw
        refine q_at (pc' := 36) (st' := []) (ws' := nC E u (t 0) (nI sk) (va_up B 3 (fun _ => (-1))) ++ (kC (u 1) kp km ku ++ (oC x (q 0) (t 0) (a 0) (k 0) (u 0) (r 0) (upd (upd g 9 (gsC T B sk c).1) 10 (gsC T B sk c).2) ++ (pC E q n pf ++ (tC E t T ++ (nC E a (t 0) (nI sk) B ++ (kC (a 1) kp km ku ++ (nC E k (t 0) sn1 B1 ++ (kC (k 1) kp1 km1 ku1 ++ (rC E r (t 0) kd rg O BO ++ (ksC kd P M U ++ tl))))))))))) (k' := 0) (n' := 0) rfl rfl rfl rfl rfl ?_
        refine q_aload_n F 0 dX10_seekGuesses_36 rfl ?_
        refine q_get F (ci := 10) (j := 4) (v := .ref (u 0)) (List.mem_append_right _ (List.mem_append_right _ (List.mem_append_left _ (List.mem_of_getElem? (i := 0) rfl)))) rfl hi10 (by decide) hf37_10 rfl rfl dX10_seekGuesses_37 ?_
        refine q_get F (ci := 5) (j := 1) (v := .ref (u 1)) (List.mem_append_left _ (List.mem_of_getElem? (i := 0) rfl)) rfl hi5 (by decide) hf102_5 rfl rfl dX10_seekGuesses_40 ?_
        refine q_iload_n F 1 dX10_seekGuesses_43 rfl ?_
        refine q_iconst F dX10_seekGuesses_44 (v := nI 3) (by decide) ?_
        refine q_idiv F dX10_seekGuesses_45 (nI_ne0 (by omega) (by omega)) ?_
        refine q_toi (nI (c / 3)) (pk_div (by omega) (by omega) (by omega)) ?_
        refine q_iconst F dX10_seekGuesses_46 (v := nI 0) (by decide) ?_
        refine q_iconst F dX10_seekGuesses_47 (v := nI 0) (by decide) ?_
        refine q_perm pf1 ?_
        refine q_callV F (ci := 2) (As := [.int (nI (c / 3)), .int (nI 0), .int (nI 0)]) (rest := []) (List.mem_append_left _ (List.mem_of_getElem? (i := 0) rfl)) rfl (c_X2_put l E (u 1) kp km ku (nI (c / 3)) (nI 0) (nI 0) _) (List.Perm.refl _) gX10_seekGuesses_X2_put rfl rfl rfl hd_X2_put ⟨by decide, by decide⟩ rfl (Nat.le_of_ble_eq_true rfl) dX10_seekGuesses_48 ⟨Nat.le_of_ble_eq_true rfl, Nat.le_of_ble_eq_true rfl⟩ (fun v_ w_ hvw => ?_)
        rw [hvw.1, hvw.2]
        clear hvw
        refine q_at (pc' := 51) (st' := []) (ws' := kC (u 1) (nI (c / 3)) (nI 0) (nI 0) ++ (nC E u (t 0) (nI sk) (va_up B 3 (fun _ => (-1))) ++ (oC x (q 0) (t 0) (a 0) (k 0) (u 0) (r 0) (upd (upd g 9 (gsC T B sk c).1) 10 (gsC T B sk c).2) ++ (pC E q n pf ++ (tC E t T ++ (nC E a (t 0) (nI sk) B ++ (kC (a 1) kp km ku ++ (nC E k (t 0) sn1 B1 ++ (kC (k 1) kp1 km1 ku1 ++ (rC E r (t 0) kd rg O BO ++ (ksC kd P M U ++ tl))))))))))) (k' := 0) (n' := 0) rfl rfl rfl rfl rfl ?_
        refine q_aload_n F 0 dX10_seekGuesses_51 rfl ?_
        refine q_get F (ci := 10) (j := 4) (v := .ref (u 0)) (List.mem_append_right _ (List.mem_append_right _ (List.mem_append_left _ (List.mem_of_getElem? (i := 0) rfl)))) rfl hi10 (by decide) hf37_10 rfl rfl dX10_seekGuesses_52 ?_
        refine q_iload_n F 1 dX10_seekGuesses_55 rfl ?_
        refine q_iconst F dX10_seekGuesses_56 (v := nI 3) (by decide) ?_
        refine q_irem F dX10_seekGuesses_57 (nI_ne0 (by omega) (by omega)) ?_
        refine q_toi (nI (c % 3)) (pk_rem (by omega) (by omega) (by omega)) ?_
        refine q_perm pf1 ?_
        refine q_callV F (ci := 5) (As := [.int (nI (c % 3))]) (rest := []) (List.mem_append_left _ (List.mem_of_getElem? (i := 0) rfl)) rfl (c_X5_letAllIn l E u t T (nI sk) (va_up B 3 (fun _ => (-1))) (nI (c / 3)) (nI 0) (nI 0) (oC x (q 0) (t 0) (a 0) (k 0) (u 0) (r 0) (upd (upd g 9 (gsC T B sk c).1) 10 (gsC T B sk c).2) ++ (pC E q n pf ++ (tC E t T ++ (nC E a (t 0) (nI sk) B ++ (kC (a 1) kp km ku ++ (nC E k (t 0) sn1 B1 ++ (kC (k 1) kp1 km1 ku1 ++ (rC E r (t 0) kd rg O BO ++ (ksC kd P M U ++ tl))))))))) (isIn.r _ (isIn.r _ (isIn.l _ _))) (isHs.r _ (isHs.r _ (isHs.r _ (isHs.r _ (isHs.r _ (isHs.r _ (isHs.r _ (isHs.r _ (isHs.r _ hH))))))))) hn (c % 3) (Nat.mod_lt _ (by decide))) (List.Perm.refl _) gX10_seekGuesses_X5_letAllIn rfl rfl rfl hd_X5_letAllIn ⟨by decide, by decide⟩ rfl (Nat.le_of_ble_eq_true rfl) dX10_seekGuesses_58 ⟨Nat.le_of_ble_eq_true rfl, Nat.le_of_ble_eq_true rfl⟩ (fun v_ w_ hvw => ?_)
        rw [hvw.1, hvw.2]
        clear hvw
        refine q_at (pc' := 61) (st' := []) (ws' := nC E u (t 0) (nI sk) ((laN T (c % 3) 6 (va_up B 3 (fun _ => (-1)), nI (c / 3), nI 0, nI 0)).1) ++ (kC (u 1) ((laN T (c % 3) 6 (va_up B 3 (fun _ => (-1)), nI (c / 3), nI 0, nI 0)).2.1) ((laN T (c % 3) 6 (va_up B 3 (fun _ => (-1)), nI (c / 3), nI 0, nI 0)).2.2.1) ((laN T (c % 3) 6 (va_up B 3 (fun _ => (-1)), nI (c / 3), nI 0, nI 0)).2.2.2) ++ (oC x (q 0) (t 0) (a 0) (k 0) (u 0) (r 0) (upd (upd g 9 (gsC T B sk c).1) 10 (gsC T B sk c).2) ++ (pC E q n pf ++ (tC E t T ++ (nC E a (t 0) (nI sk) B ++ (kC (a 1) kp km ku ++ (nC E k (t 0) sn1 B1 ++ (kC (k 1) kp1 km1 ku1 ++ (rC E r (t 0) kd rg O BO ++ (ksC kd P M U ++ tl))))))))))) (k' := 0) (n' := 0) rfl rfl rfl rfl rfl ?_
        refine q_aload_n F 0 dX10_seekGuesses_61 rfl ?_
        refine q_get F (ci := 10) (j := 4) (v := .ref (u 0)) (List.mem_append_right _ (List.mem_append_right _ (List.mem_append_left _ (List.mem_of_getElem? (i := 0) rfl)))) rfl hi10 (by decide) hf37_10 rfl rfl dX10_seekGuesses_62 ?_
        refine q_callV F (ci := 5) (As := []) (rest := []) (List.mem_append_left _ (List.mem_of_getElem? (i := 0) rfl)) rfl (c_X5_isAsSeen l E u t T sk ((laN T (c % 3) 6 (va_up B 3 (fun _ => (-1)), nI (c / 3), nI 0, nI 0)).1) ((laN T (c % 3) 6 (va_up B 3 (fun _ => (-1)), nI (c / 3), nI 0, nI 0)).2.1) ((laN T (c % 3) 6 (va_up B 3 (fun _ => (-1)), nI (c / 3), nI 0, nI 0)).2.2.1) ((laN T (c % 3) 6 (va_up B 3 (fun _ => (-1)), nI (c / 3), nI 0, nI 0)).2.2.2) (nC E u (t 0) (nI sk) ((laN T (c % 3) 6 (va_up B 3 (fun _ => (-1)), nI (c / 3), nI 0, nI 0)).1) ++ (kC (u 1) ((laN T (c % 3) 6 (va_up B 3 (fun _ => (-1)), nI (c / 3), nI 0, nI 0)).2.1) ((laN T (c % 3) 6 (va_up B 3 (fun _ => (-1)), nI (c / 3), nI 0, nI 0)).2.2.1) ((laN T (c % 3) 6 (va_up B 3 (fun _ => (-1)), nI (c / 3), nI 0, nI 0)).2.2.2) ++ (oC x (q 0) (t 0) (a 0) (k 0) (u 0) (r 0) (upd (upd g 9 (gsC T B sk c).1) 10 (gsC T B sk c).2) ++ (pC E q n pf ++ (tC E t T ++ (nC E a (t 0) (nI sk) B ++ (kC (a 1) kp km ku ++ (nC E k (t 0) sn1 B1 ++ (kC (k 1) kp1 km1 ku1 ++ (rC E r (t 0) kd rg O BO ++ (ksC kd P M U ++ tl))))))))))) (isIn.l _ _) (isIn.r _ (isIn.l _ _)) (isIn.r _ (isIn.r _ (isIn.r _ (isIn.r _ (isIn.l _ _))))) (isHs.r _ (isHs.r _ (isHs.r _ (isHs.r _ (isHs.r _ (isHs.r _ (isHs.r _ (isHs.r _ (isHs.r _ (isHs.r _ (isHs.r _ hH))))))))))) hn hk6) (List.Perm.refl _) gX10_seekGuesses_X5_isAsSeen rfl rfl rfl hd_X5_isAsSeen ⟨by decide, by decide⟩ rfl (Nat.le_of_ble_eq_true rfl) dX10_seekGuesses_65 ⟨Nat.le_of_ble_eq_true rfl, Nat.le_of_ble_eq_true rfl⟩ (fun v_ w_ hvw => ?_)
        rw [hvw.1, hvw.2]
        clear hvw
        refine q_at (pc' := 68) (st' := [.int (bI (asL T ((laN T (c % 3) 6 (va_up B 3 (fun _ => (-1)), nI (c / 3), nI 0, nI 0)).1) sk))]) (ws' := nC E u (t 0) (nI sk) ((laN T (c % 3) 6 (va_up B 3 (fun _ => (-1)), nI (c / 3), nI 0, nI 0)).1) ++ (kC (u 1) ((laN T (c % 3) 6 (va_up B 3 (fun _ => (-1)), nI (c / 3), nI 0, nI 0)).2.1) ((laN T (c % 3) 6 (va_up B 3 (fun _ => (-1)), nI (c / 3), nI 0, nI 0)).2.2.1) ((laN T (c % 3) 6 (va_up B 3 (fun _ => (-1)), nI (c / 3), nI 0, nI 0)).2.2.2) ++ (oC x (q 0) (t 0) (a 0) (k 0) (u 0) (r 0) (upd (upd g 9 (gsC T B sk c).1) 10 (gsC T B sk c).2) ++ (pC E q n pf ++ (tC E t T ++ (nC E a (t 0) (nI sk) B ++ (kC (a 1) kp km ku ++ (nC E k (t 0) sn1 B1 ++ (kC (k 1) kp1 km1 ku1 ++ (rC E r (t 0) kd rg O BO ++ (ksC kd P M U ++ tl))))))))))) (k' := 0) (n' := 0) rfl rfl rfl rfl rfl ?_
        refine q_if_eq F (tgt := 101) dX10_seekGuesses_68 (by decide) (fun h_68 => ?_) (fun h_68 => ?_)
        · skip
          have hb_68 := bI_0 h_68
          refine q_iinc F 1 (v := nI (c + 1)) (lv' := [(1, .int (nI (c + 1))), (0, .ref x)]) dX10_seekGuesses_101 rfl (nI_1 _) (by decide) rfl ?_
          refine q_goto F (tgt := 12) dX10_seekGuesses_104 (by decide) ?_
          refine q_lv [1, 0] (lv' := [(0, .ref x), (1, .int (nI (c + 1)))]) rfl ?_
          refine q_perm pf10 ?_
          refine q_perm pf10 ?_
          refine q_perm pf3 ?_
          refine q_perm pf3 ?_
          refine q_perm pf10 ?_
          refine q_perm pf10 ?_
          refine q_perm pf10 ?_
          refine q_perm pf10 ?_
          refine q_perm pf10 ?_
          refine q_perm pf10 ?_
          refine q_perm pf10 ?_
          refine q_to (lv' := [(0, .ref x), (1, .int (nI (c + 1)))]) (st' := []) (ws' := oC x (q 0) (t 0) (a 0) (k 0) (u 0) (r 0) (upd (upd g 9 (gsC T B sk (c + 1)).1) 10 (gsC T B sk (c + 1)).2) ++ (pC E q n pf ++ (tC E t T ++ (nC E a (t 0) (nI sk) B ++ (kC (a 1) kp km ku ++ (nC E k (t 0) sn1 B1 ++ (kC (k 1) kp1 km1 ku1 ++ (nC E u (t 0) (nI sk) ((laN T (c % 3) 6 (va_up B 3 (fun _ => (-1)), nI (c / 3), nI 0, nI 0)).1) ++ (kC (u 1) ((laN T (c % 3) 6 (va_up B 3 (fun _ => (-1)), nI (c / 3), nI 0, nI 0)).2.1) ((laN T (c % 3) 6 (va_up B 3 (fun _ => (-1)), nI (c / 3), nI 0, nI 0)).2.2.1) ((laN T (c % 3) 6 (va_up B 3 (fun _ => (-1)), nI (c / 3), nI 0, nI 0)).2.2.2) ++ (rC E r (t 0) kd rg O BO ++ (ksC kd P M U ++ tl))))))))))) rfl rfl (by rw [gsC, if_neg (by rw [show gsB T B sk c = false from hb_68]; decide)]) ?_
          exact ih_12 (c + 1) (nI sk) ((laN T (c % 3) 6 (va_up B 3 (fun _ => (-1)), nI (c / 3), nI 0, nI 0)).1) ((laN T (c % 3) 6 (va_up B 3 (fun _ => (-1)), nI (c / 3), nI 0, nI 0)).2.1) ((laN T (c % 3) 6 (va_up B 3 (fun _ => (-1)), nI (c / 3), nI 0, nI 0)).2.2.1) ((laN T (c % 3) 6 (va_up B 3 (fun _ => (-1)), nI (c / 3), nI 0, nI 0)).2.2.2) (by omega) (by omega)
        · skip
          have hb_68 := bI_1 h_68
          refine q_aload_n F 0 dX10_seekGuesses_71 rfl ?_
          refine q_dup F dX10_seekGuesses_72 rfl ?_
          refine q_get F (ci := 10) (j := 9) (v := .int ((gsC T B sk c).1)) (List.mem_append_right _ (List.mem_append_right _ (List.mem_append_left _ (List.mem_of_getElem? (i := 0) rfl)))) rfl hi10 (by decide) hf175_10 rfl rfl dX10_seekGuesses_73 ?_
          refine q_iconst F dX10_seekGuesses_76 (v := nI 1) (by decide) ?_
          refine q_iadd F dX10_seekGuesses_77 ?_
          refine q_perm pf2 ?_
          refine q_put F (j := 9) 0 rfl rfl hi10 tyX10 tyX10_ok nmX10 (by decide) hf175_10 rfl rfl rfl rfl (Nat.le_of_ble_eq_true rfl) dX10_seekGuesses_78 (ws' := oC x (q 0) (t 0) (a 0) (k 0) (u 0) (r 0) (upd (upd g 9 (((gsC T B sk c).1) + (nI 1))) 10 ((gsC T B sk c).2)) ++ (nC E u (t 0) (nI sk) ((laN T (c % 3) 6 (va_up B 3 (fun _ => (-1)), nI (c / 3), nI 0, nI 0)).1) ++ (kC (u 1) ((laN T (c % 3) 6 (va_up B 3 (fun _ => (-1)), nI (c / 3), nI 0, nI 0)).2.1) ((laN T (c % 3) 6 (va_up B 3 (fun _ => (-1)), nI (c / 3), nI 0, nI 0)).2.2.1) ((laN T (c % 3) 6 (va_up B 3 (fun _ => (-1)), nI (c / 3), nI 0, nI 0)).2.2.2) ++ (pC E q n pf ++ (tC E t T ++ (nC E a (t 0) (nI sk) B ++ (kC (a 1) kp km ku ++ (nC E k (t 0) sn1 B1 ++ (kC (k 1) kp1 km1 ku1 ++ (rC E r (t 0) kd rg O BO ++ (ksC kd P M U ++ tl))))))))))) rfl ?_
          refine q_aload_n F 0 dX10_seekGuesses_81 rfl ?_
          refine q_aload_n F 0 dX10_seekGuesses_82 rfl ?_
          refine q_get F (ci := 10) (j := 10) (v := .int ((gsC T B sk c).2)) (List.mem_append_left _ (List.mem_of_getElem? (i := 0) rfl)) rfl hi10 (by decide) hf178_10 rfl rfl dX10_seekGuesses_83 ?_
          refine q_iconst F dX10_seekGuesses_86 (v := (-1)) (by decide) ?_
          refine q_icmp_ne F (tgt := 94) dX10_seekGuesses_87 (by decide) (fun h_87 => ?_) (fun h_87 => ?_)
          · skip
            refine q_aload_n F 0 dX10_seekGuesses_94 rfl ?_
            refine q_get F (ci := 10) (j := 10) (v := .int ((gsC T B sk c).2)) (List.mem_append_left _ (List.mem_of_getElem? (i := 0) rfl)) rfl hi10 (by decide) hf178_10 rfl rfl dX10_seekGuesses_95 ?_
            refine q_put F (j := 10) 0 rfl rfl hi10 tyX10 tyX10_ok nmX10 (by decide) hf178_10 rfl rfl rfl rfl (Nat.le_of_ble_eq_true rfl) dX10_seekGuesses_98 (ws' := oC x (q 0) (t 0) (a 0) (k 0) (u 0) (r 0) (upd (upd g 9 (((gsC T B sk c).1) + (nI 1))) 10 ((gsC T B sk c).2)) ++ (nC E u (t 0) (nI sk) ((laN T (c % 3) 6 (va_up B 3 (fun _ => (-1)), nI (c / 3), nI 0, nI 0)).1) ++ (kC (u 1) ((laN T (c % 3) 6 (va_up B 3 (fun _ => (-1)), nI (c / 3), nI 0, nI 0)).2.1) ((laN T (c % 3) 6 (va_up B 3 (fun _ => (-1)), nI (c / 3), nI 0, nI 0)).2.2.1) ((laN T (c % 3) 6 (va_up B 3 (fun _ => (-1)), nI (c / 3), nI 0, nI 0)).2.2.2) ++ (pC E q n pf ++ (tC E t T ++ (nC E a (t 0) (nI sk) B ++ (kC (a 1) kp km ku ++ (nC E k (t 0) sn1 B1 ++ (kC (k 1) kp1 km1 ku1 ++ (rC E r (t 0) kd rg O BO ++ (ksC kd P M U ++ tl))))))))))) rfl ?_
            refine q_iinc F 1 (v := nI (c + 1)) (lv' := [(1, .int (nI (c + 1))), (0, .ref x)]) dX10_seekGuesses_101 rfl (nI_1 _) (by decide) rfl ?_
            refine q_goto F (tgt := 12) dX10_seekGuesses_104 (by decide) ?_
            refine q_lv [1, 0] (lv' := [(0, .ref x), (1, .int (nI (c + 1)))]) rfl ?_
            refine q_perm pf10 ?_
            refine q_perm pf10 ?_
            refine q_perm pf4 ?_
            refine q_perm pf4 ?_
            refine q_perm pf10 ?_
            refine q_perm pf10 ?_
            refine q_perm pf10 ?_
            refine q_perm pf10 ?_
            refine q_perm pf10 ?_
            refine q_perm pf10 ?_
            refine q_perm pf10 ?_
            refine q_to (lv' := [(0, .ref x), (1, .int (nI (c + 1)))]) (st' := []) (ws' := oC x (q 0) (t 0) (a 0) (k 0) (u 0) (r 0) (upd (upd g 9 (gsC T B sk (c + 1)).1) 10 (gsC T B sk (c + 1)).2) ++ (pC E q n pf ++ (tC E t T ++ (nC E a (t 0) (nI sk) B ++ (kC (a 1) kp km ku ++ (nC E k (t 0) sn1 B1 ++ (kC (k 1) kp1 km1 ku1 ++ (nC E u (t 0) (nI sk) ((laN T (c % 3) 6 (va_up B 3 (fun _ => (-1)), nI (c / 3), nI 0, nI 0)).1) ++ (kC (u 1) ((laN T (c % 3) 6 (va_up B 3 (fun _ => (-1)), nI (c / 3), nI 0, nI 0)).2.1) ((laN T (c % 3) 6 (va_up B 3 (fun _ => (-1)), nI (c / 3), nI 0, nI 0)).2.2.1) ((laN T (c % 3) 6 (va_up B 3 (fun _ => (-1)), nI (c / 3), nI 0, nI 0)).2.2.2) ++ (rC E r (t 0) kd rg O BO ++ (ksC kd P M U ++ tl))))))))))) rfl rfl (by rw [gsC, if_pos (show gsB T B sk c = true from hb_68)]; rw [if_neg h_87]) ?_
            exact ih_12 (c + 1) (nI sk) ((laN T (c % 3) 6 (va_up B 3 (fun _ => (-1)), nI (c / 3), nI 0, nI 0)).1) ((laN T (c % 3) 6 (va_up B 3 (fun _ => (-1)), nI (c / 3), nI 0, nI 0)).2.1) ((laN T (c % 3) 6 (va_up B 3 (fun _ => (-1)), nI (c / 3), nI 0, nI 0)).2.2.1) ((laN T (c % 3) 6 (va_up B 3 (fun _ => (-1)), nI (c / 3), nI 0, nI 0)).2.2.2) (by omega) (by omega)
          · skip
            refine q_iload_n F 1 dX10_seekGuesses_90 rfl ?_
            refine q_goto F (tgt := 98) dX10_seekGuesses_91 (by decide) ?_
            refine q_put F (j := 10) 0 rfl rfl hi10 tyX10 tyX10_ok nmX10 (by decide) hf178_10 rfl rfl rfl rfl (Nat.le_of_ble_eq_true rfl) dX10_seekGuesses_98 (ws' := oC x (q 0) (t 0) (a 0) (k 0) (u 0) (r 0) (upd (upd g 9 (((gsC T B sk c).1) + (nI 1))) 10 (nI c)) ++ (nC E u (t 0) (nI sk) ((laN T (c % 3) 6 (va_up B 3 (fun _ => (-1)), nI (c / 3), nI 0, nI 0)).1) ++ (kC (u 1) ((laN T (c % 3) 6 (va_up B 3 (fun _ => (-1)), nI (c / 3), nI 0, nI 0)).2.1) ((laN T (c % 3) 6 (va_up B 3 (fun _ => (-1)), nI (c / 3), nI 0, nI 0)).2.2.1) ((laN T (c % 3) 6 (va_up B 3 (fun _ => (-1)), nI (c / 3), nI 0, nI 0)).2.2.2) ++ (pC E q n pf ++ (tC E t T ++ (nC E a (t 0) (nI sk) B ++ (kC (a 1) kp km ku ++ (nC E k (t 0) sn1 B1 ++ (kC (k 1) kp1 km1 ku1 ++ (rC E r (t 0) kd rg O BO ++ (ksC kd P M U ++ tl))))))))))) rfl ?_
            refine q_iinc F 1 (v := nI (c + 1)) (lv' := [(1, .int (nI (c + 1))), (0, .ref x)]) dX10_seekGuesses_101 rfl (nI_1 _) (by decide) rfl ?_
            refine q_goto F (tgt := 12) dX10_seekGuesses_104 (by decide) ?_
            refine q_lv [1, 0] (lv' := [(0, .ref x), (1, .int (nI (c + 1)))]) rfl ?_
            refine q_perm pf10 ?_
            refine q_perm pf10 ?_
            refine q_perm pf4 ?_
            refine q_perm pf4 ?_
            refine q_perm pf10 ?_
            refine q_perm pf10 ?_
            refine q_perm pf10 ?_
            refine q_perm pf10 ?_
            refine q_perm pf10 ?_
            refine q_perm pf10 ?_
            refine q_perm pf10 ?_
            refine q_to (lv' := [(0, .ref x), (1, .int (nI (c + 1)))]) (st' := []) (ws' := oC x (q 0) (t 0) (a 0) (k 0) (u 0) (r 0) (upd (upd g 9 (gsC T B sk (c + 1)).1) 10 (gsC T B sk (c + 1)).2) ++ (pC E q n pf ++ (tC E t T ++ (nC E a (t 0) (nI sk) B ++ (kC (a 1) kp km ku ++ (nC E k (t 0) sn1 B1 ++ (kC (k 1) kp1 km1 ku1 ++ (nC E u (t 0) (nI sk) ((laN T (c % 3) 6 (va_up B 3 (fun _ => (-1)), nI (c / 3), nI 0, nI 0)).1) ++ (kC (u 1) ((laN T (c % 3) 6 (va_up B 3 (fun _ => (-1)), nI (c / 3), nI 0, nI 0)).2.1) ((laN T (c % 3) 6 (va_up B 3 (fun _ => (-1)), nI (c / 3), nI 0, nI 0)).2.2.1) ((laN T (c % 3) 6 (va_up B 3 (fun _ => (-1)), nI (c / 3), nI 0, nI 0)).2.2.2) ++ (rC E r (t 0) kd rg O BO ++ (ksC kd P M U ++ tl))))))))))) rfl rfl (by rw [gsC, if_pos (show gsB T B sk c = true from hb_68)]; rw [if_pos h_87]) ?_
            exact ih_12 (c + 1) (nI sk) ((laN T (c % 3) 6 (va_up B 3 (fun _ => (-1)), nI (c / 3), nI 0, nI 0)).1) ((laN T (c % 3) 6 (va_up B 3 (fun _ => (-1)), nI (c / 3), nI 0, nI 0)).2.1) ((laN T (c % 3) 6 (va_up B 3 (fun _ => (-1)), nI (c / 3), nI 0, nI 0)).2.2.1) ((laN T (c % 3) 6 (va_up B 3 (fun _ => (-1)), nI (c / 3), nI 0, nI 0)).2.2.2) (by omega) (by omega)
  refine q_lv [1, 0] (lv' := [(0, .ref x), (1, .int (nI 0))]) rfl ?_
  refine q_perm pf10 ?_
  refine q_perm pf10 ?_
  refine q_perm pf10 ?_
  refine q_perm pf10 ?_
  refine q_perm pf10 ?_
  refine q_perm pf10 ?_
  refine q_perm pf10 ?_
  refine q_perm pf10 ?_
  refine q_perm pf10 ?_
  refine q_perm pf10 ?_
  refine q_perm pf10 ?_
  refine q_to (lv' := [(0, .ref x), (1, .int (nI 0))]) (st' := []) (ws' := oC x (q 0) (t 0) (a 0) (k 0) (u 0) (r 0) (upd (upd g 9 (gsC T B sk 0).1) 10 (gsC T B sk 0).2) ++ (pC E q n pf ++ (tC E t T ++ (nC E a (t 0) (nI sk) B ++ (kC (a 1) kp km ku ++ (nC E k (t 0) sn1 B1 ++ (kC (k 1) kp1 km1 ku1 ++ (nC E u (t 0) sn2 B2 ++ (kC (u 1) kp2 km2 ku2 ++ (rC E r (t 0) kd rg O BO ++ (ksC kd P M U ++ tl))))))))))) rfl rfl (by rfl) ?_
  exact lb12 (30 - 0 + 1) 0 sn2 B2 kp2 km2 ku2 (by omega) (Nat.lt_succ_self _)

set_option maxHeartbeats 2000000 in
set_option maxRecDepth 100000 in
theorem c_X10_guess (l : Launch) (E : gEnv) (x : Nat) (q t a k u r kd : Nat → Nat) (T : gTown) (g : Nat → Int32) (n : Nat) (pf : Nat → Int32) (sk : Nat) (hk6 : sk ≤ 6) (B : Nat → Nat → Int32) (kp km ku : Int32) (sn1 : Int32) (B1 : Nat → Nat → Int32) (kp1 km1 ku1 : Int32) (sn2 : Int32) (B2 : Nat → Nat → Int32) (kp2 km2 ku2 : Int32) (rg O BO P M U : Nat → Int32) (tl : va_W) (hH : isHs T tl) (hn : tN T ≤ 6) (hq : n ≤ 30) (x1 : Int32) (hz : okZ (B 8)) : Cn l E yX10_guess wsX10_guess (rmL 6 0 0) [.ref x, .int x1] (oC x (q 0) (t 0) (a 0) (k 0) (u 0) (r 0) g ++ (pC E q n pf ++ (tC E t T ++ (nC E a (t 0) (nI sk) B ++ (kC (a 1) kp km ku ++ (nC E k (t 0) sn1 B1 ++ (kC (k 1) kp1 km1 ku1 ++ (nC E u (t 0) sn2 B2 ++ (kC (u 1) kp2 km2 ku2 ++ (rC E r (t 0) kd rg O BO ++ (ksC kd P M U ++ tl))))))))))) 0 0 (fun v w => ∃ (y : Int32) (S' : gSt), v = some (.int y) ∧ w = xW E (x, q, t, a, k, u, r, kd) S' tl ∧ ((inI x1 (nI 0) (nI 1) = false ∧ y = (-102) ∧ S' = ((T, n, pf, g, (nI sk, B, kp, km, ku), (sn1, B1, kp1, km1, ku1), (sn2, B2, kp2, km2, ku2), (rg, O, BO, P, M, U)) : gSt)) ∨ (inI x1 (nI 0) (nI 1) = true ∧ tN T = 0 ∧ y = (-103) ∧ S' = ((T, n, pf, g, (nI sk, B, kp, km, ku), (sn1, B1, kp1, km1, ku1), (sn2, B2, kp2, km2, ku2), (rg, O, BO, P, M, U)) : gSt)) ∨ (∃ (j : Nat), j ≤ 1 ∧ x1 = nI j ∧ ¬ tN T = 0 ∧ ∃ (z1 : Int32) (z2 : Nat → Nat → Int32) (z3 z4 z5 : Int32), y = (if j = 0 then (gsC T B sk 30).1 else (gsC T B sk 30).2) ∧ S' = ((T, n, pf, upd (upd g 9 (gsC T B sk 30).1) 10 (gsC T B sk 30).2, (nI sk, B, kp, km, ku), (sn1, B1, kp1, km1, ku1), (z1, z2, z3, z4, z5), (rg, O, BO, P, M, U)) : gSt)))) := by
  refine Cn.of (own := RX10) (cc := cX10_guess) (maxL := 2) (ret := (some .int)) (lv := [(0, .ref x), (1, .int x1)]) (by decide) rfl rfl (Nat.le_of_ble_eq_true rfl) rfl ?_
  intro p_ e_ s_ m_ args_ below_ meth_ c_ A_ P_ hp_ F hr_ hnm_
  have hd_X10_hasTown : yX10_hasTown.cls = RX10 ∧ yX10_hasTown.cls ≠ "java/lang/invoke/MethodHandle" ∧ yX10_hasTown.cls ≠ "java/lang/invoke/VarHandle" ∧ (parseMethodDescriptor yX10_hasTown.desc).map (fun d => d.parameters.length) = some 0 := by decide +kernel
  have hd_X10_seekGuesses : yX10_seekGuesses.cls = RX10 ∧ yX10_seekGuesses.cls ≠ "java/lang/invoke/MethodHandle" ∧ yX10_seekGuesses.cls ≠ "java/lang/invoke/VarHandle" ∧ (parseMethodDescriptor yX10_seekGuesses.desc).map (fun d => d.parameters.length) = some 0 := by decide +kernel
  have hf178_10 : Cond.fieldLink RX10 178 "KeyOnStreet" (TX10 10).2.1 (TX10 10).2.2.1 ∈ wsX10_guess := by decide +kernel
  have hi10 : ∀ w ∈ u_ws RX10 TX10 11, w ∈ wsX10_guess := by decide +kernel
  have hf175_10 : Cond.fieldLink RX10 175 "KeyOnStreet" (TX10 9).2.1 (TX10 9).2.2.1 ∈ wsX10_guess := by decide +kernel
  refine q_iload_n F 1 dX10_guess_0 rfl ?_
  refine q_if_lt F (tgt := 9) dX10_guess_1 (by decide) (fun h_1 => ?_) (fun h_1 => ?_)
  · skip
    have hz_1 := Int32.not_le.mpr h_1
    refine q_bipush F dX10_guess_9 (v := (-102)) (by decide) ?_
    refine q_perm pf10 ?_
    refine q_perm pf10 ?_
    refine q_perm pf10 ?_
    refine q_perm pf10 ?_
    refine q_perm pf10 ?_
    refine q_perm pf10 ?_
    refine q_perm pf10 ?_
    refine q_perm pf10 ?_
    refine q_perm pf10 ?_
    refine q_perm pf10 ?_
    refine q_perm pf10 ?_
    exact q_iret F hr_ dX10_guess_11 (hp_ _ _ ⟨(-102), ((T, n, pf, g, (nI sk, B, kp, km, ku), (sn1, B1, kp1, km1, ku1), (sn2, B2, kp2, km2, ku2), (rg, O, BO, P, M, U)) : gSt), rfl, rfl, Or.inl (⟨inI_lo h_1, rfl, rfl⟩)⟩)
  · skip
    have hz_1 := Int32.not_lt.mp h_1
    refine q_iload_n F 1 dX10_guess_4 rfl ?_
    refine q_iconst F dX10_guess_5 (v := nI 1) (by decide) ?_
    refine q_icmp_le F (tgt := 12) dX10_guess_6 (by decide) (fun h_6 => ?_) (fun h_6 => ?_)
    · skip
      have hz_6 := Int32.not_lt.mpr h_6
      refine q_aload_n F 0 dX10_guess_12 rfl ?_
      refine q_perm pf10 ?_
      refine q_perm pf10 ?_
      refine q_perm pf10 ?_
      refine q_perm pf10 ?_
      refine q_perm pf10 ?_
      refine q_perm pf10 ?_
      refine q_perm pf10 ?_
      refine q_perm pf10 ?_
      refine q_perm pf10 ?_
      refine q_perm pf10 ?_
      refine q_perm pf10 ?_
      refine q_callV F (ci := 10) (As := []) (rest := []) (List.mem_append_left _ (List.mem_of_getElem? (i := 0) rfl)) rfl (c_X10_hasTown l E x q t a k u r kd T g n pf (nI sk) B kp km ku sn1 B1 kp1 km1 ku1 sn2 B2 kp2 km2 ku2 rg O BO P M U tl hH hn hq ) (List.Perm.refl _) gX10_guess_X10_hasTown rfl rfl rfl hd_X10_hasTown ⟨by decide, by decide⟩ rfl (Nat.le_of_ble_eq_true rfl) dX10_guess_13 ⟨Nat.le_of_ble_eq_true rfl, Nat.le_of_ble_eq_true rfl⟩ (fun v_ w_ hvw => ?_)
      rw [hvw.1, hvw.2]
      clear hvw
      refine q_at (pc' := 16) (st' := [.int (bI (decide (¬ tN T = 0)))]) (ws' := oC x (q 0) (t 0) (a 0) (k 0) (u 0) (r 0) g ++ (pC E q n pf ++ (tC E t T ++ (nC E a (t 0) (nI sk) B ++ (kC (a 1) kp km ku ++ (nC E k (t 0) sn1 B1 ++ (kC (k 1) kp1 km1 ku1 ++ (nC E u (t 0) sn2 B2 ++ (kC (u 1) kp2 km2 ku2 ++ (rC E r (t 0) kd rg O BO ++ (ksC kd P M U ++ tl))))))))))) (k' := 0) (n' := 0) rfl rfl rfl rfl rfl ?_
      refine q_if_ne F (tgt := 22) dX10_guess_16 (by decide) (fun h_16 => ?_) (fun h_16 => ?_)
      · skip
        have hb_16 := bI_1 h_16
        obtain ⟨j, hlo_j, hhi_j, rfl⟩ := inI_nat (by decide) (by decide) (inI_t (lo := nI 0) h_1 hz_6)
        refine q_aload_n F 0 dX10_guess_22 rfl ?_
        refine q_perm pf10 ?_
        refine q_perm pf10 ?_
        refine q_perm pf10 ?_
        refine q_perm pf10 ?_
        refine q_perm pf10 ?_
        refine q_perm pf10 ?_
        refine q_perm pf10 ?_
        refine q_perm pf10 ?_
        refine q_perm pf10 ?_
        refine q_perm pf10 ?_
        refine q_perm pf10 ?_
        refine q_callV F (ci := 10) (As := []) (rest := []) (List.mem_append_left _ (List.mem_of_getElem? (i := 0) rfl)) rfl (c_X10_seekGuesses l E x q t a k u r kd T g n pf sk hk6 B kp km ku sn1 B1 kp1 km1 ku1 sn2 B2 kp2 km2 ku2 rg O BO P M U tl hH hn hq hz) (List.Perm.refl _) gX10_guess_X10_seekGuesses rfl rfl rfl hd_X10_seekGuesses ⟨by decide, by decide⟩ rfl (Nat.le_of_ble_eq_true rfl) dX10_guess_23 ⟨Nat.le_of_ble_eq_true rfl, Nat.le_of_ble_eq_true rfl⟩ (fun v_ w_ hvw => ?_)
        obtain ⟨hv_, z0_0, z1_0, z2_0, z3_0, z4_0, hw_⟩ := hvw
        rw [hv_, hw_]
        clear hv_ hw_
        refine q_at (pc' := 26) (st' := []) (ws' := oC x (q 0) (t 0) (a 0) (k 0) (u 0) (r 0) (upd (upd g 9 ((gsC T B sk 30).1)) 10 ((gsC T B sk 30).2)) ++ (pC E q n pf ++ (tC E t T ++ (nC E a (t 0) (nI sk) B ++ (kC (a 1) kp km ku ++ (nC E k (t 0) sn1 B1 ++ (kC (k 1) kp1 km1 ku1 ++ (nC E u (t 0) z0_0 z1_0 ++ (kC (u 1) z2_0 z3_0 z4_0 ++ (rC E r (t 0) kd rg O BO ++ (ksC kd P M U ++ tl))))))))))) (k' := 0) (n' := 0) rfl rfl rfl rfl rfl ?_
        refine q_iload_n F 1 dX10_guess_26 rfl ?_
        refine q_if_ne F (tgt := 37) dX10_guess_27 (by decide) (fun h_27 => ?_) (fun h_27 => ?_)
        · skip
          have hn_27 : j ≠ 0 := nf_ne_t0 (by omega) h_27
          refine q_aload_n F 0 dX10_guess_37 rfl ?_
          refine q_get F (ci := 10) (j := 10) (v := .int ((gsC T B sk 30).2)) (List.mem_append_left _ (List.mem_of_getElem? (i := 0) rfl)) rfl hi10 (by decide) hf178_10 rfl rfl dX10_guess_38 ?_
          refine q_perm pf10 ?_
          refine q_perm pf10 ?_
          refine q_perm pf10 ?_
          refine q_perm pf10 ?_
          refine q_perm pf10 ?_
          refine q_perm pf10 ?_
          refine q_perm pf10 ?_
          refine q_perm pf10 ?_
          refine q_perm pf10 ?_
          refine q_perm pf10 ?_
          refine q_perm pf10 ?_
          exact q_iret F hr_ dX10_guess_41 (hp_ _ _ ⟨(gsC T B sk 30).2, ((T, n, pf, upd (upd g 9 ((gsC T B sk 30).1)) 10 ((gsC T B sk 30).2), (nI sk, B, kp, km, ku), (sn1, B1, kp1, km1, ku1), (z0_0, z1_0, z2_0, z3_0, z4_0), (rg, O, BO, P, M, U)) : gSt), rfl, rfl, Or.inr (Or.inr (⟨j, hhi_j, rfl, (by simpa using hb_16), _, _, _, _, _, by rw [if_neg (by intro z; subst z; exact h_27 rfl)], rfl⟩))⟩)
        · skip
          have hn_27 : j = 0 := nf_ne_f0 (by omega) h_27
          refine q_aload_n F 0 dX10_guess_30 rfl ?_
          refine q_get F (ci := 10) (j := 9) (v := .int ((gsC T B sk 30).1)) (List.mem_append_left _ (List.mem_of_getElem? (i := 0) rfl)) rfl hi10 (by decide) hf175_10 rfl rfl dX10_guess_31 ?_
          refine q_goto F (tgt := 41) dX10_guess_34 (by decide) ?_
          refine q_perm pf10 ?_
          refine q_perm pf10 ?_
          refine q_perm pf10 ?_
          refine q_perm pf10 ?_
          refine q_perm pf10 ?_
          refine q_perm pf10 ?_
          refine q_perm pf10 ?_
          refine q_perm pf10 ?_
          refine q_perm pf10 ?_
          refine q_perm pf10 ?_
          refine q_perm pf10 ?_
          exact q_iret F hr_ dX10_guess_41 (hp_ _ _ ⟨(gsC T B sk 30).1, ((T, n, pf, upd (upd g 9 ((gsC T B sk 30).1)) 10 ((gsC T B sk 30).2), (nI sk, B, kp, km, ku), (sn1, B1, kp1, km1, ku1), (z0_0, z1_0, z2_0, z3_0, z4_0), (rg, O, BO, P, M, U)) : gSt), rfl, rfl, Or.inr (Or.inr (⟨j, hhi_j, rfl, (by simpa using hb_16), _, _, _, _, _, by rw [if_pos (nf_eq_t0 (by omega) h_27)], rfl⟩))⟩)
      · skip
        have hb_16 := bI_0 h_16
        refine q_bipush F dX10_guess_19 (v := (-103)) (by decide) ?_
        refine q_perm pf10 ?_
        refine q_perm pf10 ?_
        refine q_perm pf10 ?_
        refine q_perm pf10 ?_
        refine q_perm pf10 ?_
        refine q_perm pf10 ?_
        refine q_perm pf10 ?_
        refine q_perm pf10 ?_
        refine q_perm pf10 ?_
        refine q_perm pf10 ?_
        refine q_perm pf10 ?_
        exact q_iret F hr_ dX10_guess_21 (hp_ _ _ ⟨(-103), ((T, n, pf, g, (nI sk, B, kp, km, ku), (sn1, B1, kp1, km1, ku1), (sn2, B2, kp2, km2, ku2), (rg, O, BO, P, M, U)) : gSt), rfl, rfl, Or.inr (Or.inl (⟨inI_t (lo := nI 0) h_1 hz_6, (by simpa using hb_16), rfl, rfl⟩))⟩)
    · skip
      have hz_6 := Int32.not_le.mp h_6
      refine q_bipush F dX10_guess_9 (v := (-102)) (by decide) ?_
      refine q_perm pf10 ?_
      refine q_perm pf10 ?_
      refine q_perm pf10 ?_
      refine q_perm pf10 ?_
      refine q_perm pf10 ?_
      refine q_perm pf10 ?_
      refine q_perm pf10 ?_
      refine q_perm pf10 ?_
      refine q_perm pf10 ?_
      refine q_perm pf10 ?_
      refine q_perm pf10 ?_
      exact q_iret F hr_ dX10_guess_11 (hp_ _ _ ⟨(-102), ((T, n, pf, g, (nI sk, B, kp, km, ku), (sn1, B1, kp1, km1, ku1), (sn2, B2, kp2, km2, ku2), (rg, O, BO, P, M, U)) : gSt), rfl, rfl, Or.inl (⟨inI_hi hz_6, rfl, rfl⟩)⟩)

set_option maxHeartbeats 4000000 in
set_option maxRecDepth 100000 in
theorem c_X10_seedAfter (l : Launch) (E : gEnv) (ws : va_W) (y : Int32) : Cn l E yX10_seedAfter wsX10_seedAfter (rmL 0 0 0) [.int y] (ws) 0 0 (fun v w => v = some (.int (sdN y)) ∧ w = ws) := by
  refine Cn.of (own := RX10) (cc := cX10_seedAfter) (maxL := 1) (ret := (some .int)) (lv := [(0, .int y)]) (by decide) rfl rfl (Nat.le_of_ble_eq_true rfl) rfl ?_
  intro p_ e_ s_ m_ args_ below_ meth_ c_ A_ P_ hp_ F hr_ hnm_
  have hk264 : Cond.constantLong RX10 264 (1103515245) ∈ wsX10_seedAfter := by decide +kernel
  have hk266 : Cond.constantLong RX10 266 (12345) ∈ wsX10_seedAfter := by decide +kernel
  have hk268 : Cond.constantLong RX10 268 (2147483647) ∈ wsX10_seedAfter := by decide +kernel
  refine q_ldc2 F hk264 dX10_seedAfter_0 ?_
  refine q_iload_n F 0 dX10_seedAfter_3 rfl ?_
  refine q_i2l F dX10_seedAfter_4 ?_
  refine q_lmul F dX10_seedAfter_5 ?_
  refine q_ldc2 F hk266 dX10_seedAfter_6 ?_
  refine q_ladd F dX10_seedAfter_9 ?_
  refine q_ldc2 F hk268 dX10_seedAfter_10 ?_
  refine q_land F dX10_seedAfter_13 ?_
  refine q_l2i F dX10_seedAfter_14 ?_
  refine q_iret F hr_ dX10_seedAfter_15 (hp_ _ _ ⟨congrArg (fun z => some (Value.int z)) ?_, ?_⟩)
  · rfl
  · rfl

set_option maxHeartbeats 4000000 in
set_option maxRecDepth 100000 in
theorem c_X10_drawOf (l : Launch) (E : gEnv) (ws : va_W) (y : Int32) (k : Nat) (hk : 1 ≤ k) (hk2 : k < 100) : Cn l E yX10_drawOf wsX10_drawOf (rmL 0 0 0) [.int (sdN y), .int (nI k)] (ws) 0 0 (fun v w => v = some (.int (nI (drN y k))) ∧ w = ws) := by
  refine Cn.of (own := RX10) (cc := cX10_drawOf) (maxL := 2) (ret := (some .int)) (lv := [(0, .int (sdN y)), (1, .int (nI k))]) (by decide) rfl rfl (Nat.le_of_ble_eq_true rfl) rfl ?_
  intro p_ e_ s_ m_ args_ below_ meth_ c_ A_ P_ hp_ F hr_ hnm_
  have hk270 : Cond.constant RX10 270 (nI 65536) ∈ wsX10_drawOf := by decide +kernel
  obtain ⟨n, hn, e⟩ := sdN_nat y
  refine q_iload_n F 1 dX10_drawOf_0 rfl ?_
  refine q_iconst F dX10_drawOf_1 (v := nI 1) (by decide) ?_
  refine q_icmp_ge F (tgt := 9) dX10_drawOf_2 (by decide) (fun h_2 => ?_) (fun h_2 => ?_)
  · skip
    have hn_2 : k ≥ 1 := nf_ge_t (by omega) (by omega) h_2
    refine q_iload_n F 0 dX10_drawOf_9 rfl ?_
    refine q_toi (nI n) (e) ?_
    refine q_ldcw F hk270 dX10_drawOf_10 ?_
    refine q_idiv F dX10_drawOf_13 (nI_ne0 (by omega) (by omega)) ?_
    refine q_toi (nI (n / 65536)) (pk_div (by omega) (by omega) (by omega)) ?_
    refine q_iload_n F 1 dX10_drawOf_14 rfl ?_
    refine q_irem F dX10_drawOf_15 (nI_ne0 (by omega) (by omega)) ?_
    refine q_toi (nI ((n / 65536) % k)) (pk_rem (by omega) (by omega) (by omega)) ?_
    refine q_iret F hr_ dX10_drawOf_16 (hp_ _ _ ⟨congrArg (fun z => some (Value.int z)) ?_, ?_⟩)
    · exact drN_e hn e
    · rfl
  · skip
    have hn_2 : k < 1 := nf_ge_f (by omega) (by omega) h_2
    omega

set_option maxHeartbeats 2000000 in
set_option maxRecDepth 100000 in
theorem c_X10_goThroughNight (l : Launch) (E : gEnv) (x : Nat) (q t a k u r kd : Nat → Nat) (T : gTown) (g : Nat → Int32) (n : Nat) (pf : Nat → Int32) (sn : Int32) (B : Nat → Nat → Int32) (kp km ku : Int32) (sn1 : Int32) (B1 : Nat → Nat → Int32) (kp1 km1 ku1 : Int32) (sn2 : Int32) (B2 : Nat → Nat → Int32) (kp2 km2 ku2 : Int32) (rg O BO P M U : Nat → Int32) (tl : va_W) (hH : isHs T tl) (hn : tN T ≤ 6) (hq : n ≤ 30) (sd : Int32) : Cn l E yX10_goThroughNight wsX10_goThroughNight (rmL 5 0 0) [.ref x, .int sd] (oC x (q 0) (t 0) (a 0) (k 0) (u 0) (r 0) g ++ (pC E q n pf ++ (tC E t T ++ (nC E a (t 0) sn B ++ (kC (a 1) kp km ku ++ (nC E k (t 0) sn1 B1 ++ (kC (k 1) kp1 km1 ku1 ++ (nC E u (t 0) sn2 B2 ++ (kC (u 1) kp2 km2 ku2 ++ (rC E r (t 0) kd rg O BO ++ (ksC kd P M U ++ tl))))))))))) 0 0 (fun v w => v = some (.int (ntN T ((B2, kp2, km2, ku2), sd)).2) ∧ w = oC x (q 0) (t 0) (a 0) (k 0) (u 0) (r 0) g ++ (pC E q n pf ++ (tC E t T ++ (nC E a (t 0) sn B ++ (kC (a 1) kp km ku ++ (nC E k (t 0) sn1 B1 ++ (kC (k 1) kp1 km1 ku1 ++ (nC E u (t 0) sn2 ((ntN T ((B2, kp2, km2, ku2), sd)).1.1) ++ (kC (u 1) ((ntN T ((B2, kp2, km2, ku2), sd)).1.2.1) ((ntN T ((B2, kp2, km2, ku2), sd)).1.2.2.1) ((ntN T ((B2, kp2, km2, ku2), sd)).1.2.2.2) ++ (rC E r (t 0) kd rg O BO ++ (ksC kd P M U ++ tl))))))))))) := by
  refine Cn.of (own := RX10) (cc := cX10_goThroughNight) (maxL := 4) (ret := (some .int)) (lv := [(0, .ref x), (1, .int sd)]) (by decide) rfl rfl (Nat.le_of_ble_eq_true rfl) rfl ?_
  intro p_ e_ s_ m_ args_ below_ meth_ c_ A_ P_ hp_ F hr_ hnm_
  have hf37_10 : Cond.fieldLink RX10 37 "KeyOnStreet" (TX10 4).2.1 (TX10 4).2.2.1 ∈ wsX10_goThroughNight := by decide +kernel
  have hi10 : ∀ w ∈ u_ws RX10 TX10 11, w ∈ wsX10_goThroughNight := by decide +kernel
  have hf102_5 : Cond.fieldLink RX10 102 "KeyOnStreet$Night" (TX5 1).2.1 (TX5 1).2.2.1 ∈ wsX10_goThroughNight := by decide +kernel
  have hi5 : ∀ w ∈ u_ws RX5 TX5 10, w ∈ wsX10_goThroughNight := by decide +kernel
  have hf114_2 : Cond.fieldLink RX10 114 "KeyOnStreet$Key" (TX2 0).2.1 (TX2 0).2.2.1 ∈ wsX10_goThroughNight := by decide +kernel
  have hi2 : ∀ w ∈ u_ws RX2 TX2 3, w ∈ wsX10_goThroughNight := by decide +kernel
  have hd_X2_put : yX2_put.cls = RX2 ∧ yX2_put.cls ≠ "java/lang/invoke/MethodHandle" ∧ yX2_put.cls ≠ "java/lang/invoke/VarHandle" ∧ (parseMethodDescriptor yX2_put.desc).map (fun d => d.parameters.length) = some 3 := by decide +kernel
  have hf21_10 : Cond.fieldLink RX10 21 "KeyOnStreet" (TX10 1).2.1 (TX10 1).2.2.1 ∈ wsX10_goThroughNight := by decide +kernel
  have hf77_8 : Cond.fieldLink RX10 77 "KeyOnStreet$Town" (TX8 2).2.1 (TX8 2).2.2.1 ∈ wsX10_goThroughNight := by decide +kernel
  have hi8 : ∀ w ∈ u_ws RX8 TX8 4, w ∈ wsX10_goThroughNight := by decide +kernel
  have hd_X10_seedAfter : yX10_seedAfter.cls ≠ "java/lang/invoke/MethodHandle" ∧ yX10_seedAfter.cls ≠ "java/lang/invoke/VarHandle" ∧ (parseMethodDescriptor yX10_seedAfter.desc).map (fun d => d.parameters.length) = some 1 := by decide +kernel
  have hd_X10_drawOf : yX10_drawOf.cls ≠ "java/lang/invoke/MethodHandle" ∧ yX10_drawOf.cls ≠ "java/lang/invoke/VarHandle" ∧ (parseMethodDescriptor yX10_drawOf.desc).map (fun d => d.parameters.length) = some 2 := by decide +kernel
  have hd_X5_letAllIn : yX5_letAllIn.cls = RX5 ∧ yX5_letAllIn.cls ≠ "java/lang/invoke/MethodHandle" ∧ yX5_letAllIn.cls ≠ "java/lang/invoke/VarHandle" ∧ (parseMethodDescriptor yX5_letAllIn.desc).map (fun d => d.parameters.length) = some 1 := by decide +kernel
  have hf98_5 : Cond.fieldLink RX10 98 "KeyOnStreet$Night" (TX5 2).2.1 (TX5 2).2.2.1 ∈ wsX10_goThroughNight := by decide +kernel
  refine q_iload_n F 1 dX10_goThroughNight_0 rfl ?_
  refine q_istore_n F (lv' := [(2, .int sd), (0, .ref x), (1, .int sd)]) dX10_goThroughNight_1 (by decide) rfl ?_
  refine q_aload_n F 1 dX10_goThroughNight_2 rfl ?_
  refine q_get F (ci := 10) (j := 4) (v := .ref (u 0)) (List.mem_append_left _ (List.mem_of_getElem? (i := 0) rfl)) rfl hi10 (by decide) hf37_10 rfl rfl dX10_goThroughNight_3 ?_
  refine q_get F (ci := 5) (j := 1) (v := .ref (u 1)) (List.mem_append_right _ (List.mem_append_right _ (List.mem_append_right _ (List.mem_append_right _ (List.mem_append_right _ (List.mem_append_right _ (List.mem_append_right _ (List.mem_append_left _ (List.mem_of_getElem? (i := 0) rfl))))))))) rfl hi5 (by decide) hf102_5 rfl rfl dX10_goThroughNight_6 ?_
  refine q_aload_n F 1 dX10_goThroughNight_9 rfl ?_
  refine q_get F (ci := 10) (j := 4) (v := .ref (u 0)) (List.mem_append_left _ (List.mem_of_getElem? (i := 0) rfl)) rfl hi10 (by decide) hf37_10 rfl rfl dX10_goThroughNight_10 ?_
  refine q_get F (ci := 5) (j := 1) (v := .ref (u 1)) (List.mem_append_right _ (List.mem_append_right _ (List.mem_append_right _ (List.mem_append_right _ (List.mem_append_right _ (List.mem_append_right _ (List.mem_append_right _ (List.mem_append_left _ (List.mem_of_getElem? (i := 0) rfl))))))))) rfl hi5 (by decide) hf102_5 rfl rfl dX10_goThroughNight_13 ?_
  refine q_get F (ci := 2) (j := 0) (v := .int kp2) (List.mem_append_right _ (List.mem_append_right _ (List.mem_append_right _ (List.mem_append_right _ (List.mem_append_right _ (List.mem_append_right _ (List.mem_append_right _ (List.mem_append_right _ (List.mem_append_left _ (List.mem_of_getElem? (i := 0) rfl)))))))))) rfl hi2 (by decide) hf114_2 rfl rfl dX10_goThroughNight_16 ?_
  refine q_iconst F dX10_goThroughNight_19 (v := nI 0) (by decide) ?_
  refine q_iconst F dX10_goThroughNight_20 (v := nI 0) (by decide) ?_
  refine q_perm pf8 ?_
  refine q_callV F (ci := 2) (As := [.int kp2, .int (nI 0), .int (nI 0)]) (rest := []) (List.mem_append_left _ (List.mem_of_getElem? (i := 0) rfl)) rfl (c_X2_put l E (u 1) kp2 km2 ku2 kp2 (nI 0) (nI 0) _) (List.Perm.refl _) gX10_goThroughNight_X2_put rfl rfl rfl hd_X2_put ⟨by decide, by decide⟩ rfl (Nat.le_of_ble_eq_true rfl) dX10_goThroughNight_21 ⟨Nat.le_of_ble_eq_true rfl, Nat.le_of_ble_eq_true rfl⟩ (fun v_ w_ hvw => ?_)
  rw [hvw.1, hvw.2]
  clear hvw
  refine q_at (pc' := 24) (st' := []) (ws' := kC (u 1) kp2 (nI 0) (nI 0) ++ (oC x (q 0) (t 0) (a 0) (k 0) (u 0) (r 0) g ++ (pC E q n pf ++ (tC E t T ++ (nC E a (t 0) sn B ++ (kC (a 1) kp km ku ++ (nC E k (t 0) sn1 B1 ++ (kC (k 1) kp1 km1 ku1 ++ (nC E u (t 0) sn2 B2 ++ (rC E r (t 0) kd rg O BO ++ (ksC kd P M U ++ tl))))))))))) (k' := 0) (n' := 0) rfl rfl rfl rfl rfl ?_
  refine q_iconst F dX10_goThroughNight_24 (v := nI 0) (by decide) ?_
  refine q_istore_n F (lv' := [(3, .int (nI 0)), (2, .int sd), (0, .ref x), (1, .int sd)]) dX10_goThroughNight_25 (by decide) rfl ?_
  have lb26 : ∀ (fu : Nat) (i : Nat) (hi : i ≤ tN T), tN T - i < fu → gW p_ l e_ (rmL 5 0 0) s_ m_ args_ below_ meth_ c_ E A_ 4 (MQ below_ (gQ E A_ P_) args_ s_ 0 0 A_) 26 [(0, .ref x), (2, .int ((ntL (B2 2) sd i).2)), (3, .int (nI i))] [] (oC x (q 0) (t 0) (a 0) (k 0) (u 0) (r 0) g ++ (pC E q n pf ++ (tC E t T ++ (nC E a (t 0) sn B ++ (kC (a 1) kp km ku ++ (nC E k (t 0) sn1 B1 ++ (kC (k 1) kp1 km1 ku1 ++ (nC E u (t 0) sn2 (va_up B2 2 (ntL (B2 2) sd i).1) ++ (kC (u 1) kp2 (nI 0) (nI 0) ++ (rC E r (t 0) kd rg O BO ++ (ksC kd P M U ++ tl))))))))))) 0 0 := by
    intro fu_26
    induction fu_26 with
    | zero => intro i hi hfu; exact absurd hfu (Nat.not_lt_zero _)
    | succ fu_26 ih_26 =>
      intro i hi hfu_26
      refine q_iload_n F 2 dX10_goThroughNight_26 rfl ?_
      refine q_aload_n F 0 dX10_goThroughNight_27 rfl ?_
      refine q_get F (ci := 10) (j := 1) (v := .ref (t 0)) (List.mem_append_left _ (List.mem_of_getElem? (i := 0) rfl)) rfl hi10 (by decide) hf21_10 rfl rfl dX10_goThroughNight_28 ?_
      refine q_get F (ci := 8) (j := 2) (v := .int (nI (tN T))) (List.mem_append_right _ (List.mem_append_right _ (List.mem_append_left _ (List.mem_of_getElem? (i := 0) rfl)))) rfl hi8 (by decide) hf77_8 rfl rfl dX10_goThroughNight_31 ?_
      refine q_icmp_ge F (tgt := 71) dX10_goThroughNight_34 (by decide) (fun h_34 => ?_) (fun h_34 => ?_)
      · skip
        have hn_34 : i ≥ (tN T) := nf_ge_t (by omega) (by omega) h_34
        obtain rfl : i = tN T := by omega
        refine q_iload_n F 1 dX10_goThroughNight_71 rfl ?_
        refine q_callS F (As := [.int ((ntL (B2 2) sd (tN T)).2)]) (rest := []) (c_X10_seedAfter l E (oC x (q 0) (t 0) (a 0) (k 0) (u 0) (r 0) g ++ (pC E q n pf ++ (tC E t T ++ (nC E a (t 0) sn B ++ (kC (a 1) kp km ku ++ (nC E k (t 0) sn1 B1 ++ (kC (k 1) kp1 km1 ku1 ++ (nC E u (t 0) sn2 (va_up B2 2 (ntL (B2 2) sd (tN T)).1) ++ (kC (u 1) kp2 (nI 0) (nI 0) ++ (rC E r (t 0) kd rg O BO ++ (ksC kd P M U ++ tl))))))))))) ((ntL (B2 2) sd (tN T)).2)) (List.Perm.refl _) gX10_goThroughNight_X10_seedAfter rfl rfl rfl hd_X10_seedAfter ⟨by decide, by decide⟩ rfl (Nat.le_of_ble_eq_true rfl) dX10_goThroughNight_72 ⟨Nat.le_of_ble_eq_true rfl, Nat.le_of_ble_eq_true rfl⟩ (fun v_ w_ hvw => ?_)
        rw [hvw.1, hvw.2]
        clear hvw
        refine q_at (pc' := 75) (st' := [.int (sdN ((ntL (B2 2) sd (tN T)).2))]) (ws' := oC x (q 0) (t 0) (a 0) (k 0) (u 0) (r 0) g ++ (pC E q n pf ++ (tC E t T ++ (nC E a (t 0) sn B ++ (kC (a 1) kp km ku ++ (nC E k (t 0) sn1 B1 ++ (kC (k 1) kp1 km1 ku1 ++ (nC E u (t 0) sn2 (va_up B2 2 (ntL (B2 2) sd (tN T)).1) ++ (kC (u 1) kp2 (nI 0) (nI 0) ++ (rC E r (t 0) kd rg O BO ++ (ksC kd P M U ++ tl))))))))))) (k' := 0) (n' := 0) rfl rfl rfl rfl rfl ?_
        refine q_istore_n F (lv' := [(2, .int (sdN ((ntL (B2 2) sd (tN T)).2))), (0, .ref x), (3, .int (nI (tN T)))]) dX10_goThroughNight_75 (by decide) rfl ?_
        refine q_aload_n F 1 dX10_goThroughNight_76 rfl ?_
        refine q_get F (ci := 10) (j := 4) (v := .ref (u 0)) (List.mem_append_left _ (List.mem_of_getElem? (i := 0) rfl)) rfl hi10 (by decide) hf37_10 rfl rfl dX10_goThroughNight_77 ?_
        refine q_iload_n F 0 dX10_goThroughNight_80 rfl ?_
        refine q_iconst F dX10_goThroughNight_81 (v := nI 3) (by decide) ?_
        refine q_callS F (As := [.int (sdN ((ntL (B2 2) sd (tN T)).2)), .int (nI 3)]) (rest := [.ref (u 0)]) (c_X10_drawOf l E (oC x (q 0) (t 0) (a 0) (k 0) (u 0) (r 0) g ++ (pC E q n pf ++ (tC E t T ++ (nC E a (t 0) sn B ++ (kC (a 1) kp km ku ++ (nC E k (t 0) sn1 B1 ++ (kC (k 1) kp1 km1 ku1 ++ (nC E u (t 0) sn2 (va_up B2 2 (ntL (B2 2) sd (tN T)).1) ++ (kC (u 1) kp2 (nI 0) (nI 0) ++ (rC E r (t 0) kd rg O BO ++ (ksC kd P M U ++ tl))))))))))) ((ntL (B2 2) sd (tN T)).2) 3 (by decide) (by decide)) (List.Perm.refl _) gX10_goThroughNight_X10_drawOf rfl rfl rfl hd_X10_drawOf ⟨by decide, by decide⟩ rfl (Nat.le_of_ble_eq_true rfl) dX10_goThroughNight_82 ⟨Nat.le_of_ble_eq_true rfl, Nat.le_of_ble_eq_true rfl⟩ (fun v_ w_ hvw => ?_)
        rw [hvw.1, hvw.2]
        clear hvw
        refine q_at (pc' := 85) (st' := [.int (nI (drN ((ntL (B2 2) sd (tN T)).2) 3)), .ref (u 0)]) (ws' := oC x (q 0) (t 0) (a 0) (k 0) (u 0) (r 0) g ++ (pC E q n pf ++ (tC E t T ++ (nC E a (t 0) sn B ++ (kC (a 1) kp km ku ++ (nC E k (t 0) sn1 B1 ++ (kC (k 1) kp1 km1 ku1 ++ (nC E u (t 0) sn2 (va_up B2 2 (ntL (B2 2) sd (tN T)).1) ++ (kC (u 1) kp2 (nI 0) (nI 0) ++ (rC E r (t 0) kd rg O BO ++ (ksC kd P M U ++ tl))))))))))) (k' := 0) (n' := 0) rfl rfl rfl rfl rfl ?_
        refine q_perm pf8 ?_
        refine q_perm pf8 ?_
        refine q_callV F (ci := 5) (As := [.int (nI (drN ((ntL (B2 2) sd (tN T)).2) 3))]) (rest := []) (List.mem_append_left _ (List.mem_of_getElem? (i := 0) rfl)) rfl (c_X5_letAllIn l E u t T sn2 (va_up B2 2 (ntL (B2 2) sd (tN T)).1) kp2 (nI 0) (nI 0) (oC x (q 0) (t 0) (a 0) (k 0) (u 0) (r 0) g ++ (pC E q n pf ++ (tC E t T ++ (nC E a (t 0) sn B ++ (kC (a 1) kp km ku ++ (nC E k (t 0) sn1 B1 ++ (kC (k 1) kp1 km1 ku1 ++ (rC E r (t 0) kd rg O BO ++ (ksC kd P M U ++ tl))))))))) (isIn.r _ (isIn.r _ (isIn.l _ _))) (isHs.r _ (isHs.r _ (isHs.r _ (isHs.r _ (isHs.r _ (isHs.r _ (isHs.r _ (isHs.r _ (isHs.r _ hH))))))))) hn (drN ((ntL (B2 2) sd (tN T)).2) 3) (drN_lt _ (by decide))) (List.Perm.refl _) gX10_goThroughNight_X5_letAllIn rfl rfl rfl hd_X5_letAllIn ⟨by decide, by decide⟩ rfl (Nat.le_of_ble_eq_true rfl) dX10_goThroughNight_85 ⟨Nat.le_of_ble_eq_true rfl, Nat.le_of_ble_eq_true rfl⟩ (fun v_ w_ hvw => ?_)
        rw [hvw.1, hvw.2]
        clear hvw
        refine q_at (pc' := 88) (st' := []) (ws' := nC E u (t 0) sn2 ((laN T (drN ((ntL (B2 2) sd (tN T)).2) 3) 6 (va_up B2 2 (ntL (B2 2) sd (tN T)).1, kp2, nI 0, nI 0)).1) ++ (kC (u 1) ((laN T (drN ((ntL (B2 2) sd (tN T)).2) 3) 6 (va_up B2 2 (ntL (B2 2) sd (tN T)).1, kp2, nI 0, nI 0)).2.1) ((laN T (drN ((ntL (B2 2) sd (tN T)).2) 3) 6 (va_up B2 2 (ntL (B2 2) sd (tN T)).1, kp2, nI 0, nI 0)).2.2.1) ((laN T (drN ((ntL (B2 2) sd (tN T)).2) 3) 6 (va_up B2 2 (ntL (B2 2) sd (tN T)).1, kp2, nI 0, nI 0)).2.2.2) ++ (oC x (q 0) (t 0) (a 0) (k 0) (u 0) (r 0) g ++ (pC E q n pf ++ (tC E t T ++ (nC E a (t 0) sn B ++ (kC (a 1) kp km ku ++ (nC E k (t 0) sn1 B1 ++ (kC (k 1) kp1 km1 ku1 ++ (rC E r (t 0) kd rg O BO ++ (ksC kd P M U ++ tl))))))))))) (k' := 0) (n' := 0) rfl rfl rfl rfl rfl ?_
        refine q_iload_n F 0 dX10_goThroughNight_88 rfl ?_
        refine q_perm pf10 ?_
        refine q_perm pf10 ?_
        refine q_perm pf3 ?_
        refine q_perm pf3 ?_
        refine q_perm pf10 ?_
        refine q_perm pf10 ?_
        refine q_perm pf10 ?_
        refine q_perm pf10 ?_
        refine q_perm pf10 ?_
        refine q_perm pf10 ?_
        refine q_perm pf10 ?_
        refine q_iret F hr_ dX10_goThroughNight_89 (hp_ _ _ ⟨congrArg (fun z => some (Value.int z)) ?_, ?_⟩)
        · rfl
        · rfl
      · skip
        have hn_34 : i < (tN T) := nf_ge_f (by omega) (by omega) h_34
        refine q_iload_n F 1 dX10_goThroughNight_37 rfl ?_
        refine q_callS F (As := [.int ((ntL (B2 2) sd i).2)]) (rest := []) (c_X10_seedAfter l E (oC x (q 0) (t 0) (a 0) (k 0) (u 0) (r 0) g ++ (pC E q n pf ++ (tC E t T ++ (nC E a (t 0) sn B ++ (kC (a 1) kp km ku ++ (nC E k (t 0) sn1 B1 ++ (kC (k 1) kp1 km1 ku1 ++ (nC E u (t 0) sn2 (va_up B2 2 (ntL (B2 2) sd i).1) ++ (kC (u 1) kp2 (nI 0) (nI 0) ++ (rC E r (t 0) kd rg O BO ++ (ksC kd P M U ++ tl))))))))))) ((ntL (B2 2) sd i).2)) (List.Perm.refl _) gX10_goThroughNight_X10_seedAfter rfl rfl rfl hd_X10_seedAfter ⟨by decide, by decide⟩ rfl (Nat.le_of_ble_eq_true rfl) dX10_goThroughNight_38 ⟨Nat.le_of_ble_eq_true rfl, Nat.le_of_ble_eq_true rfl⟩ (fun v_ w_ hvw => ?_)
        rw [hvw.1, hvw.2]
        clear hvw
        refine q_at (pc' := 41) (st' := [.int (sdN ((ntL (B2 2) sd i).2))]) (ws' := oC x (q 0) (t 0) (a 0) (k 0) (u 0) (r 0) g ++ (pC E q n pf ++ (tC E t T ++ (nC E a (t 0) sn B ++ (kC (a 1) kp km ku ++ (nC E k (t 0) sn1 B1 ++ (kC (k 1) kp1 km1 ku1 ++ (nC E u (t 0) sn2 (va_up B2 2 (ntL (B2 2) sd i).1) ++ (kC (u 1) kp2 (nI 0) (nI 0) ++ (rC E r (t 0) kd rg O BO ++ (ksC kd P M U ++ tl))))))))))) (k' := 0) (n' := 0) rfl rfl rfl rfl rfl ?_
        refine q_istore_n F (lv' := [(2, .int (sdN ((ntL (B2 2) sd i).2))), (0, .ref x), (3, .int (nI i))]) dX10_goThroughNight_41 (by decide) rfl ?_
        refine q_aload_n F 1 dX10_goThroughNight_42 rfl ?_
        refine q_get F (ci := 10) (j := 4) (v := .ref (u 0)) (List.mem_append_left _ (List.mem_of_getElem? (i := 0) rfl)) rfl hi10 (by decide) hf37_10 rfl rfl dX10_goThroughNight_43 ?_
        refine q_get F (ci := 5) (j := 2) (v := .ref (u 2)) (List.mem_append_right _ (List.mem_append_right _ (List.mem_append_right _ (List.mem_append_right _ (List.mem_append_right _ (List.mem_append_right _ (List.mem_append_right _ (List.mem_append_left _ (List.mem_of_getElem? (i := 0) rfl))))))))) rfl hi5 (by decide) hf98_5 rfl rfl dX10_goThroughNight_46 ?_
        refine q_iload_n F 2 dX10_goThroughNight_49 rfl ?_
        refine q_iload_n F 0 dX10_goThroughNight_50 rfl ?_
        refine q_iconst F dX10_goThroughNight_51 (v := nI 2) (by decide) ?_
        refine q_callS F (As := [.int (sdN ((ntL (B2 2) sd i).2)), .int (nI 2)]) (rest := [.int (nI i), .ref (u 2)]) (c_X10_drawOf l E (oC x (q 0) (t 0) (a 0) (k 0) (u 0) (r 0) g ++ (pC E q n pf ++ (tC E t T ++ (nC E a (t 0) sn B ++ (kC (a 1) kp km ku ++ (nC E k (t 0) sn1 B1 ++ (kC (k 1) kp1 km1 ku1 ++ (nC E u (t 0) sn2 (va_up B2 2 (ntL (B2 2) sd i).1) ++ (kC (u 1) kp2 (nI 0) (nI 0) ++ (rC E r (t 0) kd rg O BO ++ (ksC kd P M U ++ tl))))))))))) ((ntL (B2 2) sd i).2) 2 (by decide) (by decide)) (List.Perm.refl _) gX10_goThroughNight_X10_drawOf rfl rfl rfl hd_X10_drawOf ⟨by decide, by decide⟩ rfl (Nat.le_of_ble_eq_true rfl) dX10_goThroughNight_52 ⟨Nat.le_of_ble_eq_true rfl, Nat.le_of_ble_eq_true rfl⟩ (fun v_ w_ hvw => ?_)
        rw [hvw.1, hvw.2]
        clear hvw
        refine q_at (pc' := 55) (st' := [.int (nI (drN ((ntL (B2 2) sd i).2) 2)), .int (nI i), .ref (u 2)]) (ws' := oC x (q 0) (t 0) (a 0) (k 0) (u 0) (r 0) g ++ (pC E q n pf ++ (tC E t T ++ (nC E a (t 0) sn B ++ (kC (a 1) kp km ku ++ (nC E k (t 0) sn1 B1 ++ (kC (k 1) kp1 km1 ku1 ++ (nC E u (t 0) sn2 (va_up B2 2 (ntL (B2 2) sd i).1) ++ (kC (u 1) kp2 (nI 0) (nI 0) ++ (rC E r (t 0) kd rg O BO ++ (ksC kd P M U ++ tl))))))))))) (k' := 0) (n' := 0) rfl rfl rfl rfl rfl ?_
        have hdr := drN_lt (ntL (B2 2) sd i).2 (show 0 < 2 by decide)
        refine q_iconst F dX10_goThroughNight_55 (v := nI 1) (by decide) ?_
        refine q_icmp_ne F (tgt := 63) dX10_goThroughNight_56 (by decide) (fun h_56 => ?_) (fun h_56 => ?_)
        · skip
          have hn_56 : (drN ((ntL (B2 2) sd i).2) 2) ≠ 1 := nf_ne_t (by omega) (by omega) h_56
          refine q_iconst F dX10_goThroughNight_63 (v := (-1)) (by decide) ?_
          refine q_perm pf7 ?_
          refine q_iast F 1 rfl i rfl (by omega) (by decide) dX10_goThroughNight_64 (ws' := nC E u (t 0) sn2 (va_up B2 2 (upd ((ntL (B2 2) sd i).1) i (-1))) ++ (oC x (q 0) (t 0) (a 0) (k 0) (u 0) (r 0) g ++ (pC E q n pf ++ (tC E t T ++ (nC E a (t 0) sn B ++ (kC (a 1) kp km ku ++ (nC E k (t 0) sn1 B1 ++ (kC (k 1) kp1 km1 ku1 ++ (kC (u 1) kp2 (nI 0) (nI 0) ++ (rC E r (t 0) kd rg O BO ++ (ksC kd P M U ++ tl))))))))))) rfl ?_
          refine q_iinc F 2 (v := nI (i + 1)) (lv' := [(3, .int (nI (i + 1))), (2, .int (sdN ((ntL (B2 2) sd i).2))), (0, .ref x)]) dX10_goThroughNight_65 rfl (nI_1 _) (by decide) rfl ?_
          refine q_goto F (tgt := 26) dX10_goThroughNight_68 (by decide) ?_
          refine q_lv [2, 1, 0] (lv' := [(0, .ref x), (2, .int (sdN ((ntL (B2 2) sd i).2))), (3, .int (nI (i + 1)))]) rfl ?_
          refine q_perm pf10 ?_
          refine q_perm pf10 ?_
          refine q_perm pf10 ?_
          refine q_perm pf3 ?_
          refine q_perm pf10 ?_
          refine q_perm pf10 ?_
          refine q_perm pf10 ?_
          refine q_perm pf10 ?_
          refine q_perm pf10 ?_
          refine q_perm pf10 ?_
          refine q_perm pf10 ?_
          refine q_to (lv' := [(0, .ref x), (2, .int ((ntL (B2 2) sd (i + 1)).2)), (3, .int (nI (i + 1)))]) (st' := []) (ws' := oC x (q 0) (t 0) (a 0) (k 0) (u 0) (r 0) g ++ (pC E q n pf ++ (tC E t T ++ (nC E a (t 0) sn B ++ (kC (a 1) kp km ku ++ (nC E k (t 0) sn1 B1 ++ (kC (k 1) kp1 km1 ku1 ++ (nC E u (t 0) sn2 (va_up B2 2 (ntL (B2 2) sd (i + 1)).1) ++ (kC (u 1) kp2 (nI 0) (nI 0) ++ (rC E r (t 0) kd rg O BO ++ (ksC kd P M U ++ tl))))))))))) (cE (vE (rfl)) (cE (vE (congrArg Value.int (by rfl))) (cE (vE (rfl)) rfl))) rfl (by rw [ntL, if_neg hn_56]) ?_
          exact ih_26 (i + 1) (by omega) (by omega)
        · skip
          have hn_56 : (drN ((ntL (B2 2) sd i).2) 2) = 1 := nf_ne_f (by omega) (by omega) h_56
          refine q_iconst F dX10_goThroughNight_59 (v := nI 0) (by decide) ?_
          refine q_goto F (tgt := 64) dX10_goThroughNight_60 (by decide) ?_
          refine q_perm pf7 ?_
          refine q_iast F 1 rfl i rfl (by omega) (by decide) dX10_goThroughNight_64 (ws' := nC E u (t 0) sn2 (va_up B2 2 (upd ((ntL (B2 2) sd i).1) i (nI 0))) ++ (oC x (q 0) (t 0) (a 0) (k 0) (u 0) (r 0) g ++ (pC E q n pf ++ (tC E t T ++ (nC E a (t 0) sn B ++ (kC (a 1) kp km ku ++ (nC E k (t 0) sn1 B1 ++ (kC (k 1) kp1 km1 ku1 ++ (kC (u 1) kp2 (nI 0) (nI 0) ++ (rC E r (t 0) kd rg O BO ++ (ksC kd P M U ++ tl))))))))))) rfl ?_
          refine q_iinc F 2 (v := nI (i + 1)) (lv' := [(3, .int (nI (i + 1))), (2, .int (sdN ((ntL (B2 2) sd i).2))), (0, .ref x)]) dX10_goThroughNight_65 rfl (nI_1 _) (by decide) rfl ?_
          refine q_goto F (tgt := 26) dX10_goThroughNight_68 (by decide) ?_
          refine q_lv [2, 1, 0] (lv' := [(0, .ref x), (2, .int (sdN ((ntL (B2 2) sd i).2))), (3, .int (nI (i + 1)))]) rfl ?_
          refine q_perm pf10 ?_
          refine q_perm pf10 ?_
          refine q_perm pf10 ?_
          refine q_perm pf3 ?_
          refine q_perm pf10 ?_
          refine q_perm pf10 ?_
          refine q_perm pf10 ?_
          refine q_perm pf10 ?_
          refine q_perm pf10 ?_
          refine q_perm pf10 ?_
          refine q_perm pf10 ?_
          refine q_to (lv' := [(0, .ref x), (2, .int ((ntL (B2 2) sd (i + 1)).2)), (3, .int (nI (i + 1)))]) (st' := []) (ws' := oC x (q 0) (t 0) (a 0) (k 0) (u 0) (r 0) g ++ (pC E q n pf ++ (tC E t T ++ (nC E a (t 0) sn B ++ (kC (a 1) kp km ku ++ (nC E k (t 0) sn1 B1 ++ (kC (k 1) kp1 km1 ku1 ++ (nC E u (t 0) sn2 (va_up B2 2 (ntL (B2 2) sd (i + 1)).1) ++ (kC (u 1) kp2 (nI 0) (nI 0) ++ (rC E r (t 0) kd rg O BO ++ (ksC kd P M U ++ tl))))))))))) (cE (vE (rfl)) (cE (vE (congrArg Value.int (by rfl))) (cE (vE (rfl)) rfl))) rfl (by rw [ntL, if_pos hn_56]) ?_
          exact ih_26 (i + 1) (by omega) (by omega)
  refine q_lv [2, 1, 0] (lv' := [(0, .ref x), (2, .int sd), (3, .int (nI 0))]) rfl ?_
  refine q_perm pf10 ?_
  refine q_perm pf10 ?_
  refine q_perm pf2 ?_
  refine q_perm pf10 ?_
  refine q_perm pf10 ?_
  refine q_perm pf10 ?_
  refine q_perm pf10 ?_
  refine q_perm pf10 ?_
  refine q_perm pf10 ?_
  refine q_perm pf10 ?_
  refine q_perm pf10 ?_
  refine q_to (lv' := [(0, .ref x), (2, .int ((ntL (B2 2) sd 0).2)), (3, .int (nI 0))]) (st' := []) (ws' := oC x (q 0) (t 0) (a 0) (k 0) (u 0) (r 0) g ++ (pC E q n pf ++ (tC E t T ++ (nC E a (t 0) sn B ++ (kC (a 1) kp km ku ++ (nC E k (t 0) sn1 B1 ++ (kC (k 1) kp1 km1 ku1 ++ (nC E u (t 0) sn2 (va_up B2 2 (ntL (B2 2) sd 0).1) ++ (kC (u 1) kp2 (nI 0) (nI 0) ++ (rC E r (t 0) kd rg O BO ++ (ksC kd P M U ++ tl))))))))))) (cE (vE (rfl)) (cE (vE (congrArg Value.int (by rfl))) (cE (vE (rfl)) rfl))) rfl (by rw [show va_up B2 2 (ntL (B2 2) sd 0).1 = B2 from va_up_eta B2 2]) ?_
  exact lb26 (tN T - 0 + 1) 0 (by omega) (Nat.lt_succ_self _)

set_option maxHeartbeats 2000000 in
set_option maxRecDepth 100000 in
theorem c_X10_nights (l : Launch) (E : gEnv) (x : Nat) (q t a k u r kd : Nat → Nat) (T : gTown) (g : Nat → Int32) (n : Nat) (pf : Nat → Int32) (sn : Int32) (B : Nat → Nat → Int32) (kp km ku : Int32) (sn1 : Int32) (B1 : Nat → Nat → Int32) (kp1 km1 ku1 : Int32) (sn2 : Int32) (B2 : Nat → Nat → Int32) (kp2 km2 ku2 : Int32) (rg O BO P M U : Nat → Int32) (tl : va_W) (hH : isHs T tl) (hn : tN T ≤ 6) (hq : n ≤ 30) (x1 x2 x3 : Int32) : Cn l E yX10_nights wsX10_nights (rmL 6 0 0) [.ref x, .int x1, .int x2, .int x3] (oC x (q 0) (t 0) (a 0) (k 0) (u 0) (r 0) g ++ (pC E q n pf ++ (tC E t T ++ (nC E a (t 0) sn B ++ (kC (a 1) kp km ku ++ (nC E k (t 0) sn1 B1 ++ (kC (k 1) kp1 km1 ku1 ++ (nC E u (t 0) sn2 B2 ++ (kC (u 1) kp2 km2 ku2 ++ (rC E r (t 0) kd rg O BO ++ (ksC kd P M U ++ tl))))))))))) 0 0 (fun v w => ∃ (y : Int32) (S' : gSt), v = some (.int y) ∧ w = xW E (x, q, t, a, k, u, r, kd) S' tl ∧ ((ntB x1 x2 x3 ∧ y = (-102) ∧ S' = ((T, n, pf, g, (sn, B, kp, km, ku), (sn1, B1, kp1, km1, ku1), (sn2, B2, kp2, km2, ku2), (rg, O, BO, P, M, U)) : gSt)) ∨ (∃ (m j : Nat), 1 ≤ m ∧ m ≤ 60 ∧ x1 = nI m ∧ ¬ x2 < 0 ∧ j ≤ 2 ∧ x3 = nI j ∧ tN T = 0 ∧ y = (-103) ∧ S' = ((T, n, pf, g, (sn, B, kp, km, ku), (sn1, B1, kp1, km1, ku1), (sn2, B2, kp2, km2, ku2), (rg, O, BO, P, M, U)) : gSt)) ∨ (∃ (m j : Nat), 1 ≤ m ∧ m ≤ 60 ∧ x1 = nI m ∧ ¬ x2 < 0 ∧ j ≤ 2 ∧ x3 = nI j ∧ ¬ tN T = 0 ∧ ∃ (z1 : Int32) (z2 : Nat → Nat → Int32) (z3 z4 z5 : Int32), y = ntU (ntK T ((bgB B2, kp, nI 0, nI 0), x2) m) j ∧ S' = ((T, n, pf, g, (sn, B, kp, km, ku), (sn1, B1, kp1, km1, ku1), (z1, z2, z3, z4, z5), (rg, O, BO, P, M, U)) : gSt)))) := by
  refine Cn.of (own := RX10) (cc := cX10_nights) (maxL := 6) (ret := (some .int)) (lv := [(0, .ref x), (1, .int x1), (2, .int x2), (3, .int x3)]) (by decide) rfl rfl (Nat.le_of_ble_eq_true rfl) rfl ?_
  intro p_ e_ s_ m_ args_ below_ meth_ c_ A_ P_ hp_ F hr_ hnm_
  have hd_X10_hasTown : yX10_hasTown.cls = RX10 ∧ yX10_hasTown.cls ≠ "java/lang/invoke/MethodHandle" ∧ yX10_hasTown.cls ≠ "java/lang/invoke/VarHandle" ∧ (parseMethodDescriptor yX10_hasTown.desc).map (fun d => d.parameters.length) = some 0 := by decide +kernel
  have hf37_10 : Cond.fieldLink RX10 37 "KeyOnStreet" (TX10 4).2.1 (TX10 4).2.2.1 ∈ wsX10_nights := by decide +kernel
  have hi10 : ∀ w ∈ u_ws RX10 TX10 11, w ∈ wsX10_nights := by decide +kernel
  have hd_X5_begin : yX5_begin.cls = RX5 ∧ yX5_begin.cls ≠ "java/lang/invoke/MethodHandle" ∧ yX5_begin.cls ≠ "java/lang/invoke/VarHandle" ∧ (parseMethodDescriptor yX5_begin.desc).map (fun d => d.parameters.length) = some 0 := by decide +kernel
  have hf102_5 : Cond.fieldLink RX10 102 "KeyOnStreet$Night" (TX5 1).2.1 (TX5 1).2.2.1 ∈ wsX10_nights := by decide +kernel
  have hi5 : ∀ w ∈ u_ws RX5 TX5 10, w ∈ wsX10_nights := by decide +kernel
  have hf30_10 : Cond.fieldLink RX10 30 "KeyOnStreet" (TX10 2).2.1 (TX10 2).2.2.1 ∈ wsX10_nights := by decide +kernel
  have hf114_2 : Cond.fieldLink RX10 114 "KeyOnStreet$Key" (TX2 0).2.1 (TX2 0).2.2.1 ∈ wsX10_nights := by decide +kernel
  have hi2 : ∀ w ∈ u_ws RX2 TX2 3, w ∈ wsX10_nights := by decide +kernel
  have hd_X5_lateOfAll : yX5_lateOfAll.cls = RX5 ∧ yX5_lateOfAll.cls ≠ "java/lang/invoke/MethodHandle" ∧ yX5_lateOfAll.cls ≠ "java/lang/invoke/VarHandle" ∧ (parseMethodDescriptor yX5_lateOfAll.desc).map (fun d => d.parameters.length) = some 0 := by decide +kernel
  have hd_X10_goThroughNight : yX10_goThroughNight.cls = RX10 ∧ yX10_goThroughNight.cls ≠ "java/lang/invoke/MethodHandle" ∧ yX10_goThroughNight.cls ≠ "java/lang/invoke/VarHandle" ∧ (parseMethodDescriptor yX10_goThroughNight.desc).map (fun d => d.parameters.length) = some 1 := by decide +kernel
  refine q_iload_n F 1 dX10_nights_0 rfl ?_
  refine q_iconst F dX10_nights_1 (v := nI 1) (by decide) ?_
  refine q_icmp_lt F (tgt := 24) dX10_nights_2 (by decide) (fun h_2 => ?_) (fun h_2 => ?_)
  · skip
    have hz_2 := Int32.not_le.mpr h_2
    refine q_bipush F dX10_nights_24 (v := (-102)) (by decide) ?_
    refine q_perm pf10 ?_
    refine q_perm pf10 ?_
    refine q_perm pf10 ?_
    refine q_perm pf10 ?_
    refine q_perm pf10 ?_
    refine q_perm pf10 ?_
    refine q_perm pf10 ?_
    refine q_perm pf10 ?_
    refine q_perm pf10 ?_
    refine q_perm pf10 ?_
    refine q_perm pf10 ?_
    exact q_iret F hr_ dX10_nights_26 (hp_ _ _ ⟨(-102), ((T, n, pf, g, (sn, B, kp, km, ku), (sn1, B1, kp1, km1, ku1), (sn2, B2, kp2, km2, ku2), (rg, O, BO, P, M, U)) : gSt), rfl, rfl, Or.inl (⟨Or.inl (inI_lo h_2), rfl, rfl⟩)⟩)
  · skip
    have hz_2 := Int32.not_lt.mp h_2
    refine q_iload_n F 1 dX10_nights_5 rfl ?_
    refine q_bipush F dX10_nights_6 (v := nI 60) (by decide) ?_
    refine q_icmp_gt F (tgt := 24) dX10_nights_8 (by decide) (fun h_8 => ?_) (fun h_8 => ?_)
    · skip
      have hz_8 := Int32.not_le.mpr h_8
      refine q_bipush F dX10_nights_24 (v := (-102)) (by decide) ?_
      refine q_perm pf10 ?_
      refine q_perm pf10 ?_
      refine q_perm pf10 ?_
      refine q_perm pf10 ?_
      refine q_perm pf10 ?_
      refine q_perm pf10 ?_
      refine q_perm pf10 ?_
      refine q_perm pf10 ?_
      refine q_perm pf10 ?_
      refine q_perm pf10 ?_
      refine q_perm pf10 ?_
      exact q_iret F hr_ dX10_nights_26 (hp_ _ _ ⟨(-102), ((T, n, pf, g, (sn, B, kp, km, ku), (sn1, B1, kp1, km1, ku1), (sn2, B2, kp2, km2, ku2), (rg, O, BO, P, M, U)) : gSt), rfl, rfl, Or.inl (⟨Or.inl (inI_hi h_8), rfl, rfl⟩)⟩)
    · skip
      have hz_8 := Int32.not_lt.mp h_8
      refine q_iload_n F 2 dX10_nights_11 rfl ?_
      refine q_if_lt F (tgt := 24) dX10_nights_12 (by decide) (fun h_12 => ?_) (fun h_12 => ?_)
      · skip
        have hz_12 := Int32.not_le.mpr h_12
        refine q_bipush F dX10_nights_24 (v := (-102)) (by decide) ?_
        refine q_perm pf10 ?_
        refine q_perm pf10 ?_
        refine q_perm pf10 ?_
        refine q_perm pf10 ?_
        refine q_perm pf10 ?_
        refine q_perm pf10 ?_
        refine q_perm pf10 ?_
        refine q_perm pf10 ?_
        refine q_perm pf10 ?_
        refine q_perm pf10 ?_
        refine q_perm pf10 ?_
        exact q_iret F hr_ dX10_nights_26 (hp_ _ _ ⟨(-102), ((T, n, pf, g, (sn, B, kp, km, ku), (sn1, B1, kp1, km1, ku1), (sn2, B2, kp2, km2, ku2), (rg, O, BO, P, M, U)) : gSt), rfl, rfl, Or.inl (⟨Or.inr (Or.inl h_12), rfl, rfl⟩)⟩)
      · skip
        have hz_12 := Int32.not_lt.mp h_12
        refine q_iload_n F 3 dX10_nights_15 rfl ?_
        refine q_if_lt F (tgt := 24) dX10_nights_16 (by decide) (fun h_16 => ?_) (fun h_16 => ?_)
        · skip
          have hz_16 := Int32.not_le.mpr h_16
          refine q_bipush F dX10_nights_24 (v := (-102)) (by decide) ?_
          refine q_perm pf10 ?_
          refine q_perm pf10 ?_
          refine q_perm pf10 ?_
          refine q_perm pf10 ?_
          refine q_perm pf10 ?_
          refine q_perm pf10 ?_
          refine q_perm pf10 ?_
          refine q_perm pf10 ?_
          refine q_perm pf10 ?_
          refine q_perm pf10 ?_
          refine q_perm pf10 ?_
          exact q_iret F hr_ dX10_nights_26 (hp_ _ _ ⟨(-102), ((T, n, pf, g, (sn, B, kp, km, ku), (sn1, B1, kp1, km1, ku1), (sn2, B2, kp2, km2, ku2), (rg, O, BO, P, M, U)) : gSt), rfl, rfl, Or.inl (⟨Or.inr (Or.inr (inI_lo h_16)), rfl, rfl⟩)⟩)
        · skip
          have hz_16 := Int32.not_lt.mp h_16
          refine q_iload_n F 3 dX10_nights_19 rfl ?_
          refine q_iconst F dX10_nights_20 (v := nI 2) (by decide) ?_
          refine q_icmp_le F (tgt := 27) dX10_nights_21 (by decide) (fun h_21 => ?_) (fun h_21 => ?_)
          · skip
            have hz_21 := Int32.not_lt.mpr h_21
            obtain ⟨m, hlo_m, hhi_m, rfl⟩ := inI_nat (by decide) (by decide) (inI_t h_2 h_8)
            obtain ⟨j, hlo_j, hhi_j, rfl⟩ := inI_nat (by decide) (by decide) (inI_t (lo := nI 0) h_16 hz_21)
            refine q_aload_n F 0 dX10_nights_27 rfl ?_
            refine q_perm pf10 ?_
            refine q_perm pf10 ?_
            refine q_perm pf10 ?_
            refine q_perm pf10 ?_
            refine q_perm pf10 ?_
            refine q_perm pf10 ?_
            refine q_perm pf10 ?_
            refine q_perm pf10 ?_
            refine q_perm pf10 ?_
            refine q_perm pf10 ?_
            refine q_perm pf10 ?_
            refine q_callV F (ci := 10) (As := []) (rest := []) (List.mem_append_left _ (List.mem_of_getElem? (i := 0) rfl)) rfl (c_X10_hasTown l E x q t a k u r kd T g n pf sn B kp km ku sn1 B1 kp1 km1 ku1 sn2 B2 kp2 km2 ku2 rg O BO P M U tl hH hn hq ) (List.Perm.refl _) gX10_nights_X10_hasTown rfl rfl rfl hd_X10_hasTown ⟨by decide, by decide⟩ rfl (Nat.le_of_ble_eq_true rfl) dX10_nights_28 ⟨Nat.le_of_ble_eq_true rfl, Nat.le_of_ble_eq_true rfl⟩ (fun v_ w_ hvw => ?_)
            rw [hvw.1, hvw.2]
            clear hvw
            refine q_at (pc' := 31) (st' := [.int (bI (decide (¬ tN T = 0)))]) (ws' := oC x (q 0) (t 0) (a 0) (k 0) (u 0) (r 0) g ++ (pC E q n pf ++ (tC E t T ++ (nC E a (t 0) sn B ++ (kC (a 1) kp km ku ++ (nC E k (t 0) sn1 B1 ++ (kC (k 1) kp1 km1 ku1 ++ (nC E u (t 0) sn2 B2 ++ (kC (u 1) kp2 km2 ku2 ++ (rC E r (t 0) kd rg O BO ++ (ksC kd P M U ++ tl))))))))))) (k' := 0) (n' := 0) rfl rfl rfl rfl rfl ?_
            refine q_if_ne F (tgt := 37) dX10_nights_31 (by decide) (fun h_31 => ?_) (fun h_31 => ?_)
            · skip
              have hb_31 := bI_1 h_31
              refine q_aload_n F 0 dX10_nights_37 rfl ?_
              refine q_get F (ci := 10) (j := 4) (v := .ref (u 0)) (List.mem_append_left _ (List.mem_of_getElem? (i := 0) rfl)) rfl hi10 (by decide) hf37_10 rfl rfl dX10_nights_38 ?_
              refine q_perm pf8 ?_
              refine q_perm pf8 ?_
              refine q_callV F (ci := 5) (As := []) (rest := []) (List.mem_append_left _ (List.mem_of_getElem? (i := 0) rfl)) rfl (c_X5_begin l E u t T sn2 B2 kp2 km2 ku2 (oC x (q 0) (t 0) (a 0) (k 0) (u 0) (r 0) g ++ (pC E q n pf ++ (tC E t T ++ (nC E a (t 0) sn B ++ (kC (a 1) kp km ku ++ (nC E k (t 0) sn1 B1 ++ (kC (k 1) kp1 km1 ku1 ++ (rC E r (t 0) kd rg O BO ++ (ksC kd P M U ++ tl))))))))) (isIn.r _ (isIn.r _ (isIn.l _ _))) (isHs.r _ (isHs.r _ (isHs.r _ (isHs.r _ (isHs.r _ (isHs.r _ (isHs.r _ (isHs.r _ (isHs.r _ hH))))))))) hn ) (List.Perm.refl _) gX10_nights_X5_begin rfl rfl rfl hd_X5_begin ⟨by decide, by decide⟩ rfl (Nat.le_of_ble_eq_true rfl) dX10_nights_41 ⟨Nat.le_of_ble_eq_true rfl, Nat.le_of_ble_eq_true rfl⟩ (fun v_ w_ hvw => ?_)
              rw [hvw.1, hvw.2]
              clear hvw
              refine q_at (pc' := 44) (st' := []) (ws' := nC E u (t 0) (nI 0) (bgB B2) ++ (kC (u 1) (nI 0) (nI 0) (nI 0) ++ (oC x (q 0) (t 0) (a 0) (k 0) (u 0) (r 0) g ++ (pC E q n pf ++ (tC E t T ++ (nC E a (t 0) sn B ++ (kC (a 1) kp km ku ++ (nC E k (t 0) sn1 B1 ++ (kC (k 1) kp1 km1 ku1 ++ (rC E r (t 0) kd rg O BO ++ (ksC kd P M U ++ tl))))))))))) (k' := 0) (n' := 0) rfl rfl rfl rfl rfl ?_
              refine q_aload_n F 0 dX10_nights_44 rfl ?_
              refine q_get F (ci := 10) (j := 4) (v := .ref (u 0)) (List.mem_append_right _ (List.mem_append_right _ (List.mem_append_left _ (List.mem_of_getElem? (i := 0) rfl)))) rfl hi10 (by decide) hf37_10 rfl rfl dX10_nights_45 ?_
              refine q_get F (ci := 5) (j := 1) (v := .ref (u 1)) (List.mem_append_left _ (List.mem_of_getElem? (i := 0) rfl)) rfl hi5 (by decide) hf102_5 rfl rfl dX10_nights_48 ?_
              refine q_aload_n F 0 dX10_nights_51 rfl ?_
              refine q_get F (ci := 10) (j := 2) (v := .ref (a 0)) (List.mem_append_right _ (List.mem_append_right _ (List.mem_append_left _ (List.mem_of_getElem? (i := 0) rfl)))) rfl hi10 (by decide) hf30_10 rfl rfl dX10_nights_52 ?_
              refine q_get F (ci := 5) (j := 1) (v := .ref (a 1)) (List.mem_append_right _ (List.mem_append_right _ (List.mem_append_right _ (List.mem_append_right _ (List.mem_append_right _ (List.mem_append_left _ (List.mem_of_getElem? (i := 0) rfl))))))) rfl hi5 (by decide) hf102_5 rfl rfl dX10_nights_55 ?_
              refine q_get F (ci := 2) (j := 0) (v := .int kp) (List.mem_append_right _ (List.mem_append_right _ (List.mem_append_right _ (List.mem_append_right _ (List.mem_append_right _ (List.mem_append_right _ (List.mem_append_left _ (List.mem_of_getElem? (i := 0) rfl)))))))) rfl hi2 (by decide) hf114_2 rfl rfl dX10_nights_58 ?_
              refine q_perm pf1 ?_
              refine q_put F (j := 0) 0 rfl rfl hi2 tyX2 tyX2_ok nmX2 (by decide) hf114_2 rfl rfl rfl rfl (Nat.le_of_ble_eq_true rfl) dX10_nights_61 (ws' := kC (u 1) kp (nI 0) (nI 0) ++ (nC E u (t 0) (nI 0) (bgB B2) ++ (oC x (q 0) (t 0) (a 0) (k 0) (u 0) (r 0) g ++ (pC E q n pf ++ (tC E t T ++ (nC E a (t 0) sn B ++ (kC (a 1) kp km ku ++ (nC E k (t 0) sn1 B1 ++ (kC (k 1) kp1 km1 ku1 ++ (rC E r (t 0) kd rg O BO ++ (ksC kd P M U ++ tl))))))))))) rfl ?_
              refine q_iload_n F 2 dX10_nights_64 rfl ?_
              refine q_istore F (lv' := [(4, .int x2), (0, .ref x), (1, .int (nI m)), (2, .int x2), (3, .int (nI j))]) dX10_nights_65 (by decide) rfl ?_
              refine q_iconst F dX10_nights_67 (v := nI 0) (by decide) ?_
              refine q_istore F (lv' := [(5, .int (nI 0)), (4, .int x2), (0, .ref x), (1, .int (nI m)), (2, .int x2), (3, .int (nI j))]) dX10_nights_68 (by decide) rfl ?_
              have lb70 : ∀ (fu : Nat) (i : Nat) (hi : i ≤ m), m - i < fu → gW p_ l e_ (rmL 6 0 0) s_ m_ args_ below_ meth_ c_ E A_ 6 (MQ below_ (gQ E A_ P_) args_ s_ 0 0 A_) 70 [(0, .ref x), (1, .int (nI m)), (3, .int (nI j)), (4, .int ((ntK T ((bgB B2, kp, nI 0, nI 0), x2) i).2)), (5, .int (nI i))] [] (oC x (q 0) (t 0) (a 0) (k 0) (u 0) (r 0) g ++ (pC E q n pf ++ (tC E t T ++ (nC E a (t 0) sn B ++ (kC (a 1) kp km ku ++ (nC E k (t 0) sn1 B1 ++ (kC (k 1) kp1 km1 ku1 ++ (nC E u (t 0) (nI 0) ((ntK T ((bgB B2, kp, nI 0, nI 0), x2) i).1.1) ++ (kC (u 1) ((ntK T ((bgB B2, kp, nI 0, nI 0), x2) i).1.2.1) ((ntK T ((bgB B2, kp, nI 0, nI 0), x2) i).1.2.2.1) ((ntK T ((bgB B2, kp, nI 0, nI 0), x2) i).1.2.2.2) ++ (rC E r (t 0) kd rg O BO ++ (ksC kd P M U ++ tl))))))))))) 0 0 := by
                intro fu_70
                induction fu_70 with
                | zero => intro i hi hfu; exact absurd hfu (Nat.not_lt_zero _)
                | succ fu_70 ih_70 =>
                  intro i hi hfu_70
                  refine q_iload F 4 dX10_nights_70 rfl ?_
                  refine q_iload_n F 1 dX10_nights_72 rfl ?_
                  refine q_icmp_ge F (tgt := 90) dX10_nights_73 (by decide) (fun h_73 => ?_) (fun h_73 => ?_)
                  · skip
                    have hn_73 : i ≥ m := nf_ge_t (by omega) (by omega) h_73
                    obtain rfl : m = i := by omega
                    refine q_iload_n F 2 dX10_nights_90 rfl ?_
                    rcases (show j = 0 ∨ j = 1 ∨ j = 2 by omega) with rfl | rfl | rfl
                    · skip
                      refine q_lookup F (off := 25) (tgt := 116) dX10_nights_91 (by decide) (by decide) (by decide) ?_
                      refine q_aload_n F 0 dX10_nights_116 rfl ?_
                      refine q_get F (ci := 10) (j := 4) (v := .ref (u 0)) (List.mem_append_left _ (List.mem_of_getElem? (i := 0) rfl)) rfl hi10 (by decide) hf37_10 rfl rfl dX10_nights_117 ?_
                      refine q_callV F (ci := 5) (As := []) (rest := []) (List.mem_append_right _ (List.mem_append_right _ (List.mem_append_right _ (List.mem_append_right _ (List.mem_append_right _ (List.mem_append_right _ (List.mem_append_right _ (List.mem_append_left _ (List.mem_of_getElem? (i := 0) rfl))))))))) rfl (c_X5_lateOfAll l E u t T (nI 0) ((ntK T ((bgB B2, kp, nI 0, nI 0), x2) m).1.1) ((ntK T ((bgB B2, kp, nI 0, nI 0), x2) m).1.2.1) ((ntK T ((bgB B2, kp, nI 0, nI 0), x2) m).1.2.2.1) ((ntK T ((bgB B2, kp, nI 0, nI 0), x2) m).1.2.2.2) (oC x (q 0) (t 0) (a 0) (k 0) (u 0) (r 0) g ++ (pC E q n pf ++ (tC E t T ++ (nC E a (t 0) sn B ++ (kC (a 1) kp km ku ++ (nC E k (t 0) sn1 B1 ++ (kC (k 1) kp1 km1 ku1 ++ (nC E u (t 0) (nI 0) ((ntK T ((bgB B2, kp, nI 0, nI 0), x2) m).1.1) ++ (kC (u 1) ((ntK T ((bgB B2, kp, nI 0, nI 0), x2) m).1.2.1) ((ntK T ((bgB B2, kp, nI 0, nI 0), x2) m).1.2.2.1) ((ntK T ((bgB B2, kp, nI 0, nI 0), x2) m).1.2.2.2) ++ (rC E r (t 0) kd rg O BO ++ (ksC kd P M U ++ tl))))))))))) (isIn.r _ (isIn.r _ (isIn.r _ (isIn.r _ (isIn.r _ (isIn.r _ (isIn.r _ (isIn.l _ _)))))))) (isIn.r _ (isIn.r _ (isIn.r _ (isIn.r _ (isIn.r _ (isIn.r _ (isIn.r _ (isIn.r _ (isIn.l _ _))))))))) (isIn.r _ (isIn.r _ (isIn.l _ _))) (isHs.r _ (isHs.r _ (isHs.r _ (isHs.r _ (isHs.r _ (isHs.r _ (isHs.r _ (isHs.r _ (isHs.r _ (isHs.r _ (isHs.r _ hH))))))))))) hn ) (List.Perm.refl _) gX10_nights_X5_lateOfAll rfl rfl rfl hd_X5_lateOfAll ⟨by decide, by decide⟩ rfl (Nat.le_of_ble_eq_true rfl) dX10_nights_120 ⟨Nat.le_of_ble_eq_true rfl, Nat.le_of_ble_eq_true rfl⟩ (fun v_ w_ hvw => ?_)
                      rw [hvw.1, hvw.2]
                      clear hvw
                      refine q_at (pc' := 123) (st' := [.int (sumB (((ntK T ((bgB B2, kp, nI 0, nI 0), x2) m).1.1) 4) 6)]) (ws' := oC x (q 0) (t 0) (a 0) (k 0) (u 0) (r 0) g ++ (pC E q n pf ++ (tC E t T ++ (nC E a (t 0) sn B ++ (kC (a 1) kp km ku ++ (nC E k (t 0) sn1 B1 ++ (kC (k 1) kp1 km1 ku1 ++ (nC E u (t 0) (nI 0) ((ntK T ((bgB B2, kp, nI 0, nI 0), x2) m).1.1) ++ (kC (u 1) ((ntK T ((bgB B2, kp, nI 0, nI 0), x2) m).1.2.1) ((ntK T ((bgB B2, kp, nI 0, nI 0), x2) m).1.2.2.1) ((ntK T ((bgB B2, kp, nI 0, nI 0), x2) m).1.2.2.2) ++ (rC E r (t 0) kd rg O BO ++ (ksC kd P M U ++ tl))))))))))) (k' := 0) (n' := 0) rfl rfl rfl rfl rfl ?_
                      refine q_perm pf10 ?_
                      refine q_perm pf10 ?_
                      refine q_perm pf10 ?_
                      refine q_perm pf10 ?_
                      refine q_perm pf10 ?_
                      refine q_perm pf10 ?_
                      refine q_perm pf10 ?_
                      refine q_perm pf10 ?_
                      refine q_perm pf10 ?_
                      refine q_perm pf10 ?_
                      refine q_perm pf10 ?_
                      exact q_iret F hr_ dX10_nights_123 (hp_ _ _ ⟨sumB (((ntK T ((bgB B2, kp, nI 0, nI 0), x2) m).1.1) 4) 6, ((T, n, pf, g, (sn, B, kp, km, ku), (sn1, B1, kp1, km1, ku1), (nI 0, (ntK T ((bgB B2, kp, nI 0, nI 0), x2) m).1.1, (ntK T ((bgB B2, kp, nI 0, nI 0), x2) m).1.2.1, (ntK T ((bgB B2, kp, nI 0, nI 0), x2) m).1.2.2.1, (ntK T ((bgB B2, kp, nI 0, nI 0), x2) m).1.2.2.2), (rg, O, BO, P, M, U)) : gSt), rfl, rfl, Or.inr (Or.inr (⟨m, 0, hlo_m, hhi_m, rfl, h_12, by decide, rfl, (by simpa using hb_31), _, _, _, _, _, rfl, rfl⟩))⟩)
                    · skip
                      refine q_lookup F (off := 33) (tgt := 124) dX10_nights_91 (by decide) (by decide) (by decide) ?_
                      refine q_aload_n F 0 dX10_nights_124 rfl ?_
                      refine q_get F (ci := 10) (j := 4) (v := .ref (u 0)) (List.mem_append_left _ (List.mem_of_getElem? (i := 0) rfl)) rfl hi10 (by decide) hf37_10 rfl rfl dX10_nights_125 ?_
                      refine q_get F (ci := 5) (j := 1) (v := .ref (u 1)) (List.mem_append_right _ (List.mem_append_right _ (List.mem_append_right _ (List.mem_append_right _ (List.mem_append_right _ (List.mem_append_right _ (List.mem_append_right _ (List.mem_append_left _ (List.mem_of_getElem? (i := 0) rfl))))))))) rfl hi5 (by decide) hf102_5 rfl rfl dX10_nights_128 ?_
                      refine q_get F (ci := 2) (j := 0) (v := .int ((ntK T ((bgB B2, kp, nI 0, nI 0), x2) m).1.2.1)) (List.mem_append_right _ (List.mem_append_right _ (List.mem_append_right _ (List.mem_append_right _ (List.mem_append_right _ (List.mem_append_right _ (List.mem_append_right _ (List.mem_append_right _ (List.mem_append_left _ (List.mem_of_getElem? (i := 0) rfl)))))))))) rfl hi2 (by decide) hf114_2 rfl rfl dX10_nights_131 ?_
                      refine q_perm pf10 ?_
                      refine q_perm pf10 ?_
                      refine q_perm pf10 ?_
                      refine q_perm pf10 ?_
                      refine q_perm pf10 ?_
                      refine q_perm pf10 ?_
                      refine q_perm pf10 ?_
                      refine q_perm pf10 ?_
                      refine q_perm pf10 ?_
                      refine q_perm pf10 ?_
                      refine q_perm pf10 ?_
                      exact q_iret F hr_ dX10_nights_134 (hp_ _ _ ⟨(ntK T ((bgB B2, kp, nI 0, nI 0), x2) m).1.2.1, ((T, n, pf, g, (sn, B, kp, km, ku), (sn1, B1, kp1, km1, ku1), (nI 0, (ntK T ((bgB B2, kp, nI 0, nI 0), x2) m).1.1, (ntK T ((bgB B2, kp, nI 0, nI 0), x2) m).1.2.1, (ntK T ((bgB B2, kp, nI 0, nI 0), x2) m).1.2.2.1, (ntK T ((bgB B2, kp, nI 0, nI 0), x2) m).1.2.2.2), (rg, O, BO, P, M, U)) : gSt), rfl, rfl, Or.inr (Or.inr (⟨m, 1, hlo_m, hhi_m, rfl, h_12, by decide, rfl, (by simpa using hb_31), _, _, _, _, _, rfl, rfl⟩))⟩)
                    · skip
                      refine q_lookup F (off := 44) (tgt := 135) dX10_nights_91 (by decide) (by decide) (by decide) ?_
                      refine q_iload F 3 dX10_nights_135 rfl ?_
                      refine q_perm pf10 ?_
                      refine q_perm pf10 ?_
                      refine q_perm pf10 ?_
                      refine q_perm pf10 ?_
                      refine q_perm pf10 ?_
                      refine q_perm pf10 ?_
                      refine q_perm pf10 ?_
                      refine q_perm pf10 ?_
                      refine q_perm pf10 ?_
                      refine q_perm pf10 ?_
                      refine q_perm pf10 ?_
                      exact q_iret F hr_ dX10_nights_137 (hp_ _ _ ⟨(ntK T ((bgB B2, kp, nI 0, nI 0), x2) m).2, ((T, n, pf, g, (sn, B, kp, km, ku), (sn1, B1, kp1, km1, ku1), (nI 0, (ntK T ((bgB B2, kp, nI 0, nI 0), x2) m).1.1, (ntK T ((bgB B2, kp, nI 0, nI 0), x2) m).1.2.1, (ntK T ((bgB B2, kp, nI 0, nI 0), x2) m).1.2.2.1, (ntK T ((bgB B2, kp, nI 0, nI 0), x2) m).1.2.2.2), (rg, O, BO, P, M, U)) : gSt), rfl, rfl, Or.inr (Or.inr (⟨m, 2, hlo_m, hhi_m, rfl, h_12, by decide, rfl, (by simpa using hb_31), _, _, _, _, _, rfl, rfl⟩))⟩)
                  · skip
                    have hn_73 : i < m := nf_ge_f (by omega) (by omega) h_73
                    refine q_aload_n F 0 dX10_nights_76 rfl ?_
                    refine q_iload F 3 dX10_nights_77 rfl ?_
                    refine q_perm pf10 ?_
                    refine q_perm pf10 ?_
                    refine q_perm pf10 ?_
                    refine q_perm pf10 ?_
                    refine q_perm pf10 ?_
                    refine q_perm pf10 ?_
                    refine q_perm pf10 ?_
                    refine q_perm pf10 ?_
                    refine q_perm pf10 ?_
                    refine q_perm pf10 ?_
                    refine q_perm pf10 ?_
                    refine q_callV F (ci := 10) (As := [.int ((ntK T ((bgB B2, kp, nI 0, nI 0), x2) i).2)]) (rest := []) (List.mem_append_left _ (List.mem_of_getElem? (i := 0) rfl)) rfl (c_X10_goThroughNight l E x q t a k u r kd T g n pf sn B kp km ku sn1 B1 kp1 km1 ku1 (nI 0) ((ntK T ((bgB B2, kp, nI 0, nI 0), x2) i).1.1) ((ntK T ((bgB B2, kp, nI 0, nI 0), x2) i).1.2.1) ((ntK T ((bgB B2, kp, nI 0, nI 0), x2) i).1.2.2.1) ((ntK T ((bgB B2, kp, nI 0, nI 0), x2) i).1.2.2.2) rg O BO P M U tl hH hn hq ((ntK T ((bgB B2, kp, nI 0, nI 0), x2) i).2)) (List.Perm.refl _) gX10_nights_X10_goThroughNight rfl rfl rfl hd_X10_goThroughNight ⟨by decide, by decide⟩ rfl (Nat.le_of_ble_eq_true rfl) dX10_nights_79 ⟨Nat.le_of_ble_eq_true rfl, Nat.le_of_ble_eq_true rfl⟩ (fun v_ w_ hvw => ?_)
                    rw [hvw.1, hvw.2]
                    clear hvw
                    refine q_at (pc' := 82) (st' := [.int ((ntN T (((ntK T ((bgB B2, kp, nI 0, nI 0), x2) i).1.1, (ntK T ((bgB B2, kp, nI 0, nI 0), x2) i).1.2.1, (ntK T ((bgB B2, kp, nI 0, nI 0), x2) i).1.2.2.1, (ntK T ((bgB B2, kp, nI 0, nI 0), x2) i).1.2.2.2), (ntK T ((bgB B2, kp, nI 0, nI 0), x2) i).2)).2)]) (ws' := oC x (q 0) (t 0) (a 0) (k 0) (u 0) (r 0) g ++ (pC E q n pf ++ (tC E t T ++ (nC E a (t 0) sn B ++ (kC (a 1) kp km ku ++ (nC E k (t 0) sn1 B1 ++ (kC (k 1) kp1 km1 ku1 ++ (nC E u (t 0) (nI 0) ((ntN T (((ntK T ((bgB B2, kp, nI 0, nI 0), x2) i).1.1, (ntK T ((bgB B2, kp, nI 0, nI 0), x2) i).1.2.1, (ntK T ((bgB B2, kp, nI 0, nI 0), x2) i).1.2.2.1, (ntK T ((bgB B2, kp, nI 0, nI 0), x2) i).1.2.2.2), (ntK T ((bgB B2, kp, nI 0, nI 0), x2) i).2)).1.1) ++ (kC (u 1) ((ntN T (((ntK T ((bgB B2, kp, nI 0, nI 0), x2) i).1.1, (ntK T ((bgB B2, kp, nI 0, nI 0), x2) i).1.2.1, (ntK T ((bgB B2, kp, nI 0, nI 0), x2) i).1.2.2.1, (ntK T ((bgB B2, kp, nI 0, nI 0), x2) i).1.2.2.2), (ntK T ((bgB B2, kp, nI 0, nI 0), x2) i).2)).1.2.1) ((ntN T (((ntK T ((bgB B2, kp, nI 0, nI 0), x2) i).1.1, (ntK T ((bgB B2, kp, nI 0, nI 0), x2) i).1.2.1, (ntK T ((bgB B2, kp, nI 0, nI 0), x2) i).1.2.2.1, (ntK T ((bgB B2, kp, nI 0, nI 0), x2) i).1.2.2.2), (ntK T ((bgB B2, kp, nI 0, nI 0), x2) i).2)).1.2.2.1) ((ntN T (((ntK T ((bgB B2, kp, nI 0, nI 0), x2) i).1.1, (ntK T ((bgB B2, kp, nI 0, nI 0), x2) i).1.2.1, (ntK T ((bgB B2, kp, nI 0, nI 0), x2) i).1.2.2.1, (ntK T ((bgB B2, kp, nI 0, nI 0), x2) i).1.2.2.2), (ntK T ((bgB B2, kp, nI 0, nI 0), x2) i).2)).1.2.2.2) ++ (rC E r (t 0) kd rg O BO ++ (ksC kd P M U ++ tl))))))))))) (k' := 0) (n' := 0) rfl rfl rfl rfl rfl ?_
                    refine q_istore F (lv' := [(4, .int ((ntN T (((ntK T ((bgB B2, kp, nI 0, nI 0), x2) i).1.1, (ntK T ((bgB B2, kp, nI 0, nI 0), x2) i).1.2.1, (ntK T ((bgB B2, kp, nI 0, nI 0), x2) i).1.2.2.1, (ntK T ((bgB B2, kp, nI 0, nI 0), x2) i).1.2.2.2), (ntK T ((bgB B2, kp, nI 0, nI 0), x2) i).2)).2)), (0, .ref x), (1, .int (nI m)), (3, .int (nI j)), (5, .int (nI i))]) dX10_nights_82 (by decide) rfl ?_
                    refine q_iinc F 4 (v := nI (i + 1)) (lv' := [(5, .int (nI (i + 1))), (4, .int ((ntN T (((ntK T ((bgB B2, kp, nI 0, nI 0), x2) i).1.1, (ntK T ((bgB B2, kp, nI 0, nI 0), x2) i).1.2.1, (ntK T ((bgB B2, kp, nI 0, nI 0), x2) i).1.2.2.1, (ntK T ((bgB B2, kp, nI 0, nI 0), x2) i).1.2.2.2), (ntK T ((bgB B2, kp, nI 0, nI 0), x2) i).2)).2)), (0, .ref x), (1, .int (nI m)), (3, .int (nI j))]) dX10_nights_84 rfl (nI_1 _) (by decide) rfl ?_
                    refine q_goto F (tgt := 70) dX10_nights_87 (by decide) ?_
                    refine q_lv [2, 3, 4, 1, 0] (lv' := [(0, .ref x), (1, .int (nI m)), (3, .int (nI j)), (4, .int ((ntN T (((ntK T ((bgB B2, kp, nI 0, nI 0), x2) i).1.1, (ntK T ((bgB B2, kp, nI 0, nI 0), x2) i).1.2.1, (ntK T ((bgB B2, kp, nI 0, nI 0), x2) i).1.2.2.1, (ntK T ((bgB B2, kp, nI 0, nI 0), x2) i).1.2.2.2), (ntK T ((bgB B2, kp, nI 0, nI 0), x2) i).2)).2)), (5, .int (nI (i + 1)))]) rfl ?_
                    refine q_perm pf10 ?_
                    refine q_perm pf10 ?_
                    refine q_perm pf10 ?_
                    refine q_perm pf10 ?_
                    refine q_perm pf10 ?_
                    refine q_perm pf10 ?_
                    refine q_perm pf10 ?_
                    refine q_perm pf10 ?_
                    refine q_perm pf10 ?_
                    refine q_perm pf10 ?_
                    refine q_perm pf10 ?_
                    refine q_to (lv' := [(0, .ref x), (1, .int (nI m)), (3, .int (nI j)), (4, .int ((ntK T ((bgB B2, kp, nI 0, nI 0), x2) (i + 1)).2)), (5, .int (nI (i + 1)))]) (st' := []) (ws' := oC x (q 0) (t 0) (a 0) (k 0) (u 0) (r 0) g ++ (pC E q n pf ++ (tC E t T ++ (nC E a (t 0) sn B ++ (kC (a 1) kp km ku ++ (nC E k (t 0) sn1 B1 ++ (kC (k 1) kp1 km1 ku1 ++ (nC E u (t 0) (nI 0) ((ntK T ((bgB B2, kp, nI 0, nI 0), x2) (i + 1)).1.1) ++ (kC (u 1) ((ntK T ((bgB B2, kp, nI 0, nI 0), x2) (i + 1)).1.2.1) ((ntK T ((bgB B2, kp, nI 0, nI 0), x2) (i + 1)).1.2.2.1) ((ntK T ((bgB B2, kp, nI 0, nI 0), x2) (i + 1)).1.2.2.2) ++ (rC E r (t 0) kd rg O BO ++ (ksC kd P M U ++ tl))))))))))) (cE (vE (rfl)) (cE (vE (rfl)) (cE (vE (rfl)) (cE (vE (congrArg Value.int (by rfl))) (cE (vE (rfl)) rfl))))) rfl (by rfl) ?_
                    exact ih_70 (i + 1) (by omega) (by omega)
              refine q_lv [2, 3, 5, 1, 0] (lv' := [(0, .ref x), (1, .int (nI m)), (3, .int (nI j)), (4, .int x2), (5, .int (nI 0))]) rfl ?_
              refine q_perm pf10 ?_
              refine q_perm pf10 ?_
              refine q_perm pf2 ?_
              refine q_perm pf3 ?_
              refine q_perm pf10 ?_
              refine q_perm pf10 ?_
              refine q_perm pf10 ?_
              refine q_perm pf10 ?_
              refine q_perm pf10 ?_
              refine q_perm pf10 ?_
              refine q_perm pf10 ?_
              refine q_to (lv' := [(0, .ref x), (1, .int (nI m)), (3, .int (nI j)), (4, .int ((ntK T ((bgB B2, kp, nI 0, nI 0), x2) 0).2)), (5, .int (nI 0))]) (st' := []) (ws' := oC x (q 0) (t 0) (a 0) (k 0) (u 0) (r 0) g ++ (pC E q n pf ++ (tC E t T ++ (nC E a (t 0) sn B ++ (kC (a 1) kp km ku ++ (nC E k (t 0) sn1 B1 ++ (kC (k 1) kp1 km1 ku1 ++ (nC E u (t 0) (nI 0) ((ntK T ((bgB B2, kp, nI 0, nI 0), x2) 0).1.1) ++ (kC (u 1) ((ntK T ((bgB B2, kp, nI 0, nI 0), x2) 0).1.2.1) ((ntK T ((bgB B2, kp, nI 0, nI 0), x2) 0).1.2.2.1) ((ntK T ((bgB B2, kp, nI 0, nI 0), x2) 0).1.2.2.2) ++ (rC E r (t 0) kd rg O BO ++ (ksC kd P M U ++ tl))))))))))) (cE (vE (rfl)) (cE (vE (rfl)) (cE (vE (rfl)) (cE (vE (congrArg Value.int (by rfl))) (cE (vE (rfl)) rfl))))) rfl (by rfl) ?_
              exact lb70 (m - 0 + 1) 0 (by omega) (Nat.lt_succ_self _)
            · skip
              have hb_31 := bI_0 h_31
              refine q_bipush F dX10_nights_34 (v := (-103)) (by decide) ?_
              refine q_perm pf10 ?_
              refine q_perm pf10 ?_
              refine q_perm pf10 ?_
              refine q_perm pf10 ?_
              refine q_perm pf10 ?_
              refine q_perm pf10 ?_
              refine q_perm pf10 ?_
              refine q_perm pf10 ?_
              refine q_perm pf10 ?_
              refine q_perm pf10 ?_
              refine q_perm pf10 ?_
              exact q_iret F hr_ dX10_nights_36 (hp_ _ _ ⟨(-103), ((T, n, pf, g, (sn, B, kp, km, ku), (sn1, B1, kp1, km1, ku1), (sn2, B2, kp2, km2, ku2), (rg, O, BO, P, M, U)) : gSt), rfl, rfl, Or.inr (Or.inl (⟨m, j, hlo_m, hhi_m, rfl, h_12, hhi_j, rfl, (by simpa using hb_31), rfl, rfl⟩))⟩)
          · skip
            have hz_21 := Int32.not_le.mp h_21
            refine q_bipush F dX10_nights_24 (v := (-102)) (by decide) ?_
            refine q_perm pf10 ?_
            refine q_perm pf10 ?_
            refine q_perm pf10 ?_
            refine q_perm pf10 ?_
            refine q_perm pf10 ?_
            refine q_perm pf10 ?_
            refine q_perm pf10 ?_
            refine q_perm pf10 ?_
            refine q_perm pf10 ?_
            refine q_perm pf10 ?_
            refine q_perm pf10 ?_
            exact q_iret F hr_ dX10_nights_26 (hp_ _ _ ⟨(-102), ((T, n, pf, g, (sn, B, kp, km, ku), (sn1, B1, kp1, km1, ku1), (sn2, B2, kp2, km2, ku2), (rg, O, BO, P, M, U)) : gSt), rfl, rfl, Or.inl (⟨Or.inr (Or.inr (inI_hi hz_21)), rfl, rfl⟩)⟩)

set_option maxHeartbeats 2000000 in
set_option maxRecDepth 100000 in
theorem c_X10_image (l : Launch) (E : gEnv) (x : Nat) (q t a k u r kd : Nat → Nat) (T : gTown) (g : Nat → Int32) (n : Nat) (pf : Nat → Int32) (sn : Int32) (B : Nat → Nat → Int32) (kp km ku : Int32) (sn1 : Int32) (B1 : Nat → Nat → Int32) (kp1 km1 ku1 : Int32) (sn2 : Int32) (B2 : Nat → Nat → Int32) (kp2 km2 ku2 : Int32) (rg O BO P M U : Nat → Int32) (tl : va_W) (hH : isHs T tl) (hn : tN T ≤ 6) (hq : n ≤ 30) (hz : okZ (B 8)) : Cn l E yX10_image wsX10_image (rmL 3 0 0) [.ref x] (oC x (q 0) (t 0) (a 0) (k 0) (u 0) (r 0) g ++ (pC E q n pf ++ (tC E t T ++ (nC E a (t 0) sn B ++ (kC (a 1) kp km ku ++ (nC E k (t 0) sn1 B1 ++ (kC (k 1) kp1 km1 ku1 ++ (nC E u (t 0) sn2 B2 ++ (kC (u 1) kp2 km2 ku2 ++ (rC E r (t 0) kd rg O BO ++ (ksC kd P M U ++ tl))))))))))) 0 0 (fun v w => ∃ (y : Int32) (S' : gSt), v = some (.int y) ∧ w = xW E (x, q, t, a, k, u, r, kd) S' tl ∧ ((tN T = 0 ∧ y = (-103) ∧ S' = ((T, n, pf, g, (sn, B, kp, km, ku), (sn1, B1, kp1, km1, ku1), (sn2, B2, kp2, km2, ku2), (rg, O, BO, P, M, U)) : gSt)) ∨ (¬ tN T = 0 ∧ y = km ∧ S' = ((T, n, pf, upd g 6 (nI 1), (sn, B, kp, km, ku), (sn, B, kp, km, ku), (sn2, B2, kp2, km2, ku2), (rg, O, BO, P, M, U)) : gSt)))) := by
  refine Cn.of (own := RX10) (cc := cX10_image) (maxL := 1) (ret := (some .int)) (lv := [(0, .ref x)]) (by decide) rfl rfl (Nat.le_of_ble_eq_true rfl) rfl ?_
  intro p_ e_ s_ m_ args_ below_ meth_ c_ A_ P_ hp_ F hr_ hnm_
  have hd_X10_hasTown : yX10_hasTown.cls = RX10 ∧ yX10_hasTown.cls ≠ "java/lang/invoke/MethodHandle" ∧ yX10_hasTown.cls ≠ "java/lang/invoke/VarHandle" ∧ (parseMethodDescriptor yX10_hasTown.desc).map (fun d => d.parameters.length) = some 0 := by decide +kernel
  have hf34_10 : Cond.fieldLink RX10 34 "KeyOnStreet" (TX10 3).2.1 (TX10 3).2.2.1 ∈ wsX10_image := by decide +kernel
  have hi10 : ∀ w ∈ u_ws RX10 TX10 11, w ∈ wsX10_image := by decide +kernel
  have hf30_10 : Cond.fieldLink RX10 30 "KeyOnStreet" (TX10 2).2.1 (TX10 2).2.2.1 ∈ wsX10_image := by decide +kernel
  have hd_X5_copyFrom : yX5_copyFrom.cls = RX5 ∧ yX5_copyFrom.cls ≠ "java/lang/invoke/MethodHandle" ∧ yX5_copyFrom.cls ≠ "java/lang/invoke/VarHandle" ∧ (parseMethodDescriptor yX5_copyFrom.desc).map (fun d => d.parameters.length) = some 1 := by decide +kernel
  have hf70_10 : Cond.fieldLink RX10 70 "KeyOnStreet" (TX10 6).2.1 (TX10 6).2.2.1 ∈ wsX10_image := by decide +kernel
  have hf102_5 : Cond.fieldLink RX10 102 "KeyOnStreet$Night" (TX5 1).2.1 (TX5 1).2.2.1 ∈ wsX10_image := by decide +kernel
  have hi5 : ∀ w ∈ u_ws RX5 TX5 10, w ∈ wsX10_image := by decide +kernel
  have hf106_2 : Cond.fieldLink RX10 106 "KeyOnStreet$Key" (TX2 1).2.1 (TX2 1).2.2.1 ∈ wsX10_image := by decide +kernel
  have hi2 : ∀ w ∈ u_ws RX2 TX2 3, w ∈ wsX10_image := by decide +kernel
  refine q_aload_n F 0 dX10_image_0 rfl ?_
  refine q_perm pf10 ?_
  refine q_perm pf10 ?_
  refine q_perm pf10 ?_
  refine q_perm pf10 ?_
  refine q_perm pf10 ?_
  refine q_perm pf10 ?_
  refine q_perm pf10 ?_
  refine q_perm pf10 ?_
  refine q_perm pf10 ?_
  refine q_perm pf10 ?_
  refine q_perm pf10 ?_
  refine q_callV F (ci := 10) (As := []) (rest := []) (List.mem_append_left _ (List.mem_of_getElem? (i := 0) rfl)) rfl (c_X10_hasTown l E x q t a k u r kd T g n pf sn B kp km ku sn1 B1 kp1 km1 ku1 sn2 B2 kp2 km2 ku2 rg O BO P M U tl hH hn hq ) (List.Perm.refl _) gX10_image_X10_hasTown rfl rfl rfl hd_X10_hasTown ⟨by decide, by decide⟩ rfl (Nat.le_of_ble_eq_true rfl) dX10_image_1 ⟨Nat.le_of_ble_eq_true rfl, Nat.le_of_ble_eq_true rfl⟩ (fun v_ w_ hvw => ?_)
  rw [hvw.1, hvw.2]
  clear hvw
  refine q_at (pc' := 4) (st' := [.int (bI (decide (¬ tN T = 0)))]) (ws' := oC x (q 0) (t 0) (a 0) (k 0) (u 0) (r 0) g ++ (pC E q n pf ++ (tC E t T ++ (nC E a (t 0) sn B ++ (kC (a 1) kp km ku ++ (nC E k (t 0) sn1 B1 ++ (kC (k 1) kp1 km1 ku1 ++ (nC E u (t 0) sn2 B2 ++ (kC (u 1) kp2 km2 ku2 ++ (rC E r (t 0) kd rg O BO ++ (ksC kd P M U ++ tl))))))))))) (k' := 0) (n' := 0) rfl rfl rfl rfl rfl ?_
  refine q_if_ne F (tgt := 10) dX10_image_4 (by decide) (fun h_4 => ?_) (fun h_4 => ?_)
  · skip
    have hb_4 := bI_1 h_4
    refine q_aload_n F 0 dX10_image_10 rfl ?_
    refine q_get F (ci := 10) (j := 3) (v := .ref (k 0)) (List.mem_append_left _ (List.mem_of_getElem? (i := 0) rfl)) rfl hi10 (by decide) hf34_10 rfl rfl dX10_image_11 ?_
    refine q_aload_n F 0 dX10_image_14 rfl ?_
    refine q_get F (ci := 10) (j := 2) (v := .ref (a 0)) (List.mem_append_left _ (List.mem_of_getElem? (i := 0) rfl)) rfl hi10 (by decide) hf30_10 rfl rfl dX10_image_15 ?_
    refine q_perm pf6 ?_
    refine q_perm pf6 ?_
    refine q_callV F (ci := 5) (As := [.ref (a 0)]) (rest := []) (List.mem_append_left _ (List.mem_of_getElem? (i := 0) rfl)) rfl (c_X5_copyFrom l E k t T sn1 B1 kp1 km1 ku1 (oC x (q 0) (t 0) (a 0) (k 0) (u 0) (r 0) g ++ (pC E q n pf ++ (tC E t T ++ (nC E a (t 0) sn B ++ (kC (a 1) kp km ku ++ (nC E u (t 0) sn2 B2 ++ (kC (u 1) kp2 km2 ku2 ++ (rC E r (t 0) kd rg O BO ++ (ksC kd P M U ++ tl))))))))) (isIn.r _ (isIn.r _ (isIn.l _ _))) (isHs.r _ (isHs.r _ (isHs.r _ (isHs.r _ (isHs.r _ (isHs.r _ (isHs.r _ (isHs.r _ (isHs.r _ hH))))))))) hn a (t 0) sn B kp km ku (isIn.r _ (isIn.r _ (isIn.r _ (isIn.l _ _)))) (isIn.r _ (isIn.r _ (isIn.r _ (isIn.r _ (isIn.l _ _))))) hz) (List.Perm.refl _) gX10_image_X5_copyFrom rfl rfl rfl hd_X5_copyFrom ⟨by decide, by decide⟩ rfl (Nat.le_of_ble_eq_true rfl) dX10_image_18 ⟨Nat.le_of_ble_eq_true rfl, Nat.le_of_ble_eq_true rfl⟩ (fun v_ w_ hvw => ?_)
    rw [hvw.1, hvw.2]
    clear hvw
    refine q_at (pc' := 21) (st' := []) (ws' := nC E k (t 0) sn B ++ (kC (k 1) kp km ku ++ (oC x (q 0) (t 0) (a 0) (k 0) (u 0) (r 0) g ++ (pC E q n pf ++ (tC E t T ++ (nC E a (t 0) sn B ++ (kC (a 1) kp km ku ++ (nC E u (t 0) sn2 B2 ++ (kC (u 1) kp2 km2 ku2 ++ (rC E r (t 0) kd rg O BO ++ (ksC kd P M U ++ tl))))))))))) (k' := 0) (n' := 0) rfl rfl rfl rfl rfl ?_
    refine q_aload_n F 0 dX10_image_21 rfl ?_
    refine q_iconst F dX10_image_22 (v := nI 1) (by decide) ?_
    refine q_perm pf2 ?_
    refine q_put F (j := 6) 0 rfl rfl hi10 tyX10 tyX10_ok nmX10 (by decide) hf70_10 rfl rfl (by decide) rfl (Nat.le_of_ble_eq_true rfl) dX10_image_23 (ws' := oC x (q 0) (t 0) (a 0) (k 0) (u 0) (r 0) (upd g 6 (nI 1)) ++ (nC E k (t 0) sn B ++ (kC (k 1) kp km ku ++ (pC E q n pf ++ (tC E t T ++ (nC E a (t 0) sn B ++ (kC (a 1) kp km ku ++ (nC E u (t 0) sn2 B2 ++ (kC (u 1) kp2 km2 ku2 ++ (rC E r (t 0) kd rg O BO ++ (ksC kd P M U ++ tl))))))))))) rfl ?_
    refine q_aload_n F 0 dX10_image_26 rfl ?_
    refine q_get F (ci := 10) (j := 2) (v := .ref (a 0)) (List.mem_append_left _ (List.mem_of_getElem? (i := 0) rfl)) rfl hi10 (by decide) hf30_10 rfl rfl dX10_image_27 ?_
    refine q_get F (ci := 5) (j := 1) (v := .ref (a 1)) (List.mem_append_right _ (List.mem_append_right _ (List.mem_append_right _ (List.mem_append_right _ (List.mem_append_right _ (List.mem_append_left _ (List.mem_of_getElem? (i := 0) rfl))))))) rfl hi5 (by decide) hf102_5 rfl rfl dX10_image_30 ?_
    refine q_get F (ci := 2) (j := 1) (v := .int km) (List.mem_append_right _ (List.mem_append_right _ (List.mem_append_right _ (List.mem_append_right _ (List.mem_append_right _ (List.mem_append_right _ (List.mem_append_left _ (List.mem_of_getElem? (i := 0) rfl)))))))) rfl hi2 (by decide) hf106_2 rfl rfl dX10_image_33 ?_
    refine q_perm pf10 ?_
    refine q_perm pf10 ?_
    refine q_perm pf10 ?_
    refine q_perm pf10 ?_
    refine q_perm pf6 ?_
    refine q_perm pf6 ?_
    refine q_perm pf10 ?_
    refine q_perm pf10 ?_
    refine q_perm pf10 ?_
    refine q_perm pf10 ?_
    refine q_perm pf10 ?_
    exact q_iret F hr_ dX10_image_36 (hp_ _ _ ⟨km, ((T, n, pf, upd g 6 (nI 1), (sn, B, kp, km, ku), (sn, B, kp, km, ku), (sn2, B2, kp2, km2, ku2), (rg, O, BO, P, M, U)) : gSt), rfl, rfl, Or.inr (⟨(by simpa using hb_4), rfl, rfl⟩)⟩)
  · skip
    have hb_4 := bI_0 h_4
    refine q_bipush F dX10_image_7 (v := (-103)) (by decide) ?_
    refine q_perm pf10 ?_
    refine q_perm pf10 ?_
    refine q_perm pf10 ?_
    refine q_perm pf10 ?_
    refine q_perm pf10 ?_
    refine q_perm pf10 ?_
    refine q_perm pf10 ?_
    refine q_perm pf10 ?_
    refine q_perm pf10 ?_
    refine q_perm pf10 ?_
    refine q_perm pf10 ?_
    exact q_iret F hr_ dX10_image_9 (hp_ _ _ ⟨(-103), ((T, n, pf, g, (sn, B, kp, km, ku), (sn1, B1, kp1, km1, ku1), (sn2, B2, kp2, km2, ku2), (rg, O, BO, P, M, U)) : gSt), rfl, rfl, Or.inl (⟨(by simpa using hb_4), rfl, rfl⟩)⟩)

set_option maxHeartbeats 2000000 in
set_option maxRecDepth 100000 in
theorem c_X10_restore (l : Launch) (E : gEnv) (x : Nat) (q t a k u r kd : Nat → Nat) (T : gTown) (g : Nat → Int32) (n : Nat) (pf : Nat → Int32) (sn : Int32) (B : Nat → Nat → Int32) (kp km ku : Int32) (sn1 : Int32) (B1 : Nat → Nat → Int32) (kp1 km1 ku1 : Int32) (sn2 : Int32) (B2 : Nat → Nat → Int32) (kp2 km2 ku2 : Int32) (rg O BO P M U : Nat → Int32) (tl : va_W) (hH : isHs T tl) (hn : tN T ≤ 6) (hq : n ≤ 30) (hz1 : ¬ g 6 = 0 → okZ (B1 8)) : Cn l E yX10_restore wsX10_restore (rmL 3 0 0) [.ref x] (oC x (q 0) (t 0) (a 0) (k 0) (u 0) (r 0) g ++ (pC E q n pf ++ (tC E t T ++ (nC E a (t 0) sn B ++ (kC (a 1) kp km ku ++ (nC E k (t 0) sn1 B1 ++ (kC (k 1) kp1 km1 ku1 ++ (nC E u (t 0) sn2 B2 ++ (kC (u 1) kp2 km2 ku2 ++ (rC E r (t 0) kd rg O BO ++ (ksC kd P M U ++ tl))))))))))) 0 0 (fun v w => ∃ (y : Int32) (S' : gSt), v = some (.int y) ∧ w = xW E (x, q, t, a, k, u, r, kd) S' tl ∧ ((g 6 = 0 ∧ y = (-103) ∧ S' = ((T, n, pf, g, (sn, B, kp, km, ku), (sn1, B1, kp1, km1, ku1), (sn2, B2, kp2, km2, ku2), (rg, O, BO, P, M, U)) : gSt)) ∨ (¬ g 6 = 0 ∧ y = km1 ∧ S' = ((T, n, pf, g, (sn1, B1, kp1, km1, ku1), (sn1, B1, kp1, km1, ku1), (sn2, B2, kp2, km2, ku2), (rg, O, BO, P, M, U)) : gSt)))) := by
  refine Cn.of (own := RX10) (cc := cX10_restore) (maxL := 1) (ret := (some .int)) (lv := [(0, .ref x)]) (by decide) rfl rfl (Nat.le_of_ble_eq_true rfl) rfl ?_
  intro p_ e_ s_ m_ args_ below_ meth_ c_ A_ P_ hp_ F hr_ hnm_
  have hf70_10 : Cond.fieldLink RX10 70 "KeyOnStreet" (TX10 6).2.1 (TX10 6).2.2.1 ∈ wsX10_restore := by decide +kernel
  have hi10 : ∀ w ∈ u_ws RX10 TX10 11, w ∈ wsX10_restore := by decide +kernel
  have hf30_10 : Cond.fieldLink RX10 30 "KeyOnStreet" (TX10 2).2.1 (TX10 2).2.2.1 ∈ wsX10_restore := by decide +kernel
  have hf34_10 : Cond.fieldLink RX10 34 "KeyOnStreet" (TX10 3).2.1 (TX10 3).2.2.1 ∈ wsX10_restore := by decide +kernel
  have hd_X5_copyFrom : yX5_copyFrom.cls = RX5 ∧ yX5_copyFrom.cls ≠ "java/lang/invoke/MethodHandle" ∧ yX5_copyFrom.cls ≠ "java/lang/invoke/VarHandle" ∧ (parseMethodDescriptor yX5_copyFrom.desc).map (fun d => d.parameters.length) = some 1 := by decide +kernel
  have hf102_5 : Cond.fieldLink RX10 102 "KeyOnStreet$Night" (TX5 1).2.1 (TX5 1).2.2.1 ∈ wsX10_restore := by decide +kernel
  have hi5 : ∀ w ∈ u_ws RX5 TX5 10, w ∈ wsX10_restore := by decide +kernel
  have hf106_2 : Cond.fieldLink RX10 106 "KeyOnStreet$Key" (TX2 1).2.1 (TX2 1).2.2.1 ∈ wsX10_restore := by decide +kernel
  have hi2 : ∀ w ∈ u_ws RX2 TX2 3, w ∈ wsX10_restore := by decide +kernel
  refine q_aload_n F 0 dX10_restore_0 rfl ?_
  refine q_get F (ci := 10) (j := 6) (v := .int (g 6)) (List.mem_append_left _ (List.mem_of_getElem? (i := 0) rfl)) rfl hi10 (by decide) hf70_10 rfl rfl dX10_restore_1 ?_
  refine q_if_ne F (tgt := 10) dX10_restore_4 (by decide) (fun h_4 => ?_) (fun h_4 => ?_)
  · skip
    refine q_aload_n F 0 dX10_restore_10 rfl ?_
    refine q_get F (ci := 10) (j := 2) (v := .ref (a 0)) (List.mem_append_left _ (List.mem_of_getElem? (i := 0) rfl)) rfl hi10 (by decide) hf30_10 rfl rfl dX10_restore_11 ?_
    refine q_aload_n F 0 dX10_restore_14 rfl ?_
    refine q_get F (ci := 10) (j := 3) (v := .ref (k 0)) (List.mem_append_left _ (List.mem_of_getElem? (i := 0) rfl)) rfl hi10 (by decide) hf34_10 rfl rfl dX10_restore_15 ?_
    refine q_perm pf4 ?_
    refine q_perm pf4 ?_
    refine q_callV F (ci := 5) (As := [.ref (k 0)]) (rest := []) (List.mem_append_left _ (List.mem_of_getElem? (i := 0) rfl)) rfl (c_X5_copyFrom l E a t T sn B kp km ku (oC x (q 0) (t 0) (a 0) (k 0) (u 0) (r 0) g ++ (pC E q n pf ++ (tC E t T ++ (nC E k (t 0) sn1 B1 ++ (kC (k 1) kp1 km1 ku1 ++ (nC E u (t 0) sn2 B2 ++ (kC (u 1) kp2 km2 ku2 ++ (rC E r (t 0) kd rg O BO ++ (ksC kd P M U ++ tl))))))))) (isIn.r _ (isIn.r _ (isIn.l _ _))) (isHs.r _ (isHs.r _ (isHs.r _ (isHs.r _ (isHs.r _ (isHs.r _ (isHs.r _ (isHs.r _ (isHs.r _ hH))))))))) hn k (t 0) sn1 B1 kp1 km1 ku1 (isIn.r _ (isIn.r _ (isIn.r _ (isIn.l _ _)))) (isIn.r _ (isIn.r _ (isIn.r _ (isIn.r _ (isIn.l _ _))))) (hz1 h_4)) (List.Perm.refl _) gX10_restore_X5_copyFrom rfl rfl rfl hd_X5_copyFrom ⟨by decide, by decide⟩ rfl (Nat.le_of_ble_eq_true rfl) dX10_restore_18 ⟨Nat.le_of_ble_eq_true rfl, Nat.le_of_ble_eq_true rfl⟩ (fun v_ w_ hvw => ?_)
    rw [hvw.1, hvw.2]
    clear hvw
    refine q_at (pc' := 21) (st' := []) (ws' := nC E a (t 0) sn1 B1 ++ (kC (a 1) kp1 km1 ku1 ++ (oC x (q 0) (t 0) (a 0) (k 0) (u 0) (r 0) g ++ (pC E q n pf ++ (tC E t T ++ (nC E k (t 0) sn1 B1 ++ (kC (k 1) kp1 km1 ku1 ++ (nC E u (t 0) sn2 B2 ++ (kC (u 1) kp2 km2 ku2 ++ (rC E r (t 0) kd rg O BO ++ (ksC kd P M U ++ tl))))))))))) (k' := 0) (n' := 0) rfl rfl rfl rfl rfl ?_
    refine q_aload_n F 0 dX10_restore_21 rfl ?_
    refine q_get F (ci := 10) (j := 2) (v := .ref (a 0)) (List.mem_append_right _ (List.mem_append_right _ (List.mem_append_left _ (List.mem_of_getElem? (i := 0) rfl)))) rfl hi10 (by decide) hf30_10 rfl rfl dX10_restore_22 ?_
    refine q_get F (ci := 5) (j := 1) (v := .ref (a 1)) (List.mem_append_left _ (List.mem_of_getElem? (i := 0) rfl)) rfl hi5 (by decide) hf102_5 rfl rfl dX10_restore_25 ?_
    refine q_get F (ci := 2) (j := 1) (v := .int km1) (List.mem_append_right _ (List.mem_append_left _ (List.mem_of_getElem? (i := 0) rfl))) rfl hi2 (by decide) hf106_2 rfl rfl dX10_restore_28 ?_
    refine q_perm pf10 ?_
    refine q_perm pf10 ?_
    refine q_perm pf10 ?_
    refine q_perm pf10 ?_
    refine q_perm pf10 ?_
    refine q_perm pf10 ?_
    refine q_perm pf7 ?_
    refine q_perm pf7 ?_
    refine q_perm pf10 ?_
    refine q_perm pf10 ?_
    refine q_perm pf10 ?_
    exact q_iret F hr_ dX10_restore_31 (hp_ _ _ ⟨km1, ((T, n, pf, g, (sn1, B1, kp1, km1, ku1), (sn1, B1, kp1, km1, ku1), (sn2, B2, kp2, km2, ku2), (rg, O, BO, P, M, U)) : gSt), rfl, rfl, Or.inr (⟨h_4, rfl, rfl⟩)⟩)
  · skip
    refine q_bipush F dX10_restore_7 (v := (-103)) (by decide) ?_
    refine q_perm pf10 ?_
    refine q_perm pf10 ?_
    refine q_perm pf10 ?_
    refine q_perm pf10 ?_
    refine q_perm pf10 ?_
    refine q_perm pf10 ?_
    refine q_perm pf10 ?_
    refine q_perm pf10 ?_
    refine q_perm pf10 ?_
    refine q_perm pf10 ?_
    refine q_perm pf10 ?_
    exact q_iret F hr_ dX10_restore_9 (hp_ _ _ ⟨(-103), ((T, n, pf, g, (sn, B, kp, km, ku), (sn1, B1, kp1, km1, ku1), (sn2, B2, kp2, km2, ku2), (rg, O, BO, P, M, U)) : gSt), rfl, rfl, Or.inl (⟨h_4, rfl, rfl⟩)⟩)

set_option maxHeartbeats 2000000 in
set_option maxRecDepth 100000 in
theorem c_X10_count (l : Launch) (E : gEnv) (x : Nat) (q t a k u r kd : Nat → Nat) (T : gTown) (g : Nat → Int32) (n : Nat) (pf : Nat → Int32) (sn : Int32) (B : Nat → Nat → Int32) (kp km ku : Int32) (sn1 : Int32) (B1 : Nat → Nat → Int32) (kp1 km1 ku1 : Int32) (sn2 : Int32) (B2 : Nat → Nat → Int32) (kp2 km2 ku2 : Int32) (rg O BO P M U : Nat → Int32) (tl : va_W) (hH : isHs T tl) (hn : tN T ≤ 6) (hq : n ≤ 30) (j : Nat) (hj : j ≤ 10) : Cn l E yX10_count wsX10_count (rmL 2 0 0) [.ref x, .int (nI j)] (oC x (q 0) (t 0) (a 0) (k 0) (u 0) (r 0) g ++ (pC E q n pf ++ (tC E t T ++ (nC E a (t 0) sn B ++ (kC (a 1) kp km ku ++ (nC E k (t 0) sn1 B1 ++ (kC (k 1) kp1 km1 ku1 ++ (nC E u (t 0) sn2 B2 ++ (kC (u 1) kp2 km2 ku2 ++ (rC E r (t 0) kd rg O BO ++ (ksC kd P M U ++ tl))))))))))) 0 0 (fun v w => v = some (.int (cnC T g n sn B kp km ku j)) ∧ w = oC x (q 0) (t 0) (a 0) (k 0) (u 0) (r 0) g ++ (pC E q n pf ++ (tC E t T ++ (nC E a (t 0) sn B ++ (kC (a 1) kp km ku ++ (nC E k (t 0) sn1 B1 ++ (kC (k 1) kp1 km1 ku1 ++ (nC E u (t 0) sn2 B2 ++ (kC (u 1) kp2 km2 ku2 ++ (rC E r (t 0) kd rg O BO ++ (ksC kd P M U ++ tl))))))))))) := by
  refine Cn.of (own := RX10) (cc := cX10_count) (maxL := 2) (ret := (some .int)) (lv := [(0, .ref x), (1, .int (nI j))]) (by decide) rfl rfl (Nat.le_of_ble_eq_true rfl) rfl ?_
  intro p_ e_ s_ m_ args_ below_ meth_ c_ A_ P_ hp_ F hr_ hnm_
  have hf21_10 : Cond.fieldLink RX10 21 "KeyOnStreet" (TX10 1).2.1 (TX10 1).2.2.1 ∈ wsX10_count := by decide +kernel
  have hi10 : ∀ w ∈ u_ws RX10 TX10 11, w ∈ wsX10_count := by decide +kernel
  have hf77_8 : Cond.fieldLink RX10 77 "KeyOnStreet$Town" (TX8 2).2.1 (TX8 2).2.2.1 ∈ wsX10_count := by decide +kernel
  have hi8 : ∀ w ∈ u_ws RX8 TX8 4, w ∈ wsX10_count := by decide +kernel
  have hf30_10 : Cond.fieldLink RX10 30 "KeyOnStreet" (TX10 2).2.1 (TX10 2).2.2.1 ∈ wsX10_count := by decide +kernel
  have hd_X5_outAtDoor : yX5_outAtDoor.cls = RX5 ∧ yX5_outAtDoor.cls ≠ "java/lang/invoke/MethodHandle" ∧ yX5_outAtDoor.cls ≠ "java/lang/invoke/VarHandle" ∧ (parseMethodDescriptor yX5_outAtDoor.desc).map (fun d => d.parameters.length) = some 0 := by decide +kernel
  have hf102_5 : Cond.fieldLink RX10 102 "KeyOnStreet$Night" (TX5 1).2.1 (TX5 1).2.2.1 ∈ wsX10_count := by decide +kernel
  have hi5 : ∀ w ∈ u_ws RX5 TX5 10, w ∈ wsX10_count := by decide +kernel
  have hf114_2 : Cond.fieldLink RX10 114 "KeyOnStreet$Key" (TX2 0).2.1 (TX2 0).2.2.1 ∈ wsX10_count := by decide +kernel
  have hi2 : ∀ w ∈ u_ws RX2 TX2 3, w ∈ wsX10_count := by decide +kernel
  have hf106_2 : Cond.fieldLink RX10 106 "KeyOnStreet$Key" (TX2 1).2.1 (TX2 1).2.2.1 ∈ wsX10_count := by decide +kernel
  have hf194_2 : Cond.fieldLink RX10 194 "KeyOnStreet$Key" (TX2 2).2.1 (TX2 2).2.2.1 ∈ wsX10_count := by decide +kernel
  have hd_X5_lateOfAll : yX5_lateOfAll.cls = RX5 ∧ yX5_lateOfAll.cls ≠ "java/lang/invoke/MethodHandle" ∧ yX5_lateOfAll.cls ≠ "java/lang/invoke/VarHandle" ∧ (parseMethodDescriptor yX5_lateOfAll.desc).map (fun d => d.parameters.length) = some 0 := by decide +kernel
  have hd_X5_outOfAll : yX5_outOfAll.cls = RX5 ∧ yX5_outOfAll.cls ≠ "java/lang/invoke/MethodHandle" ∧ yX5_outOfAll.cls ≠ "java/lang/invoke/VarHandle" ∧ (parseMethodDescriptor yX5_outOfAll.desc).map (fun d => d.parameters.length) = some 0 := by decide +kernel
  have hf169_5 : Cond.fieldLink RX10 169 "KeyOnStreet$Night" (TX5 9).2.1 (TX5 9).2.2.1 ∈ wsX10_count := by decide +kernel
  have hf12_10 : Cond.fieldLink RX10 12 "KeyOnStreet" (TX10 0).2.1 (TX10 0).2.2.1 ∈ wsX10_count := by decide +kernel
  have hf51_6 : Cond.fieldLink RX10 51 "KeyOnStreet$Page" (TX6 1).2.1 (TX6 1).2.2.1 ∈ wsX10_count := by decide +kernel
  have hi6 : ∀ w ∈ u_ws RX6 TX6 2, w ∈ wsX10_count := by decide +kernel
  have hf74_10 : Cond.fieldLink RX10 74 "KeyOnStreet" (TX10 7).2.1 (TX10 7).2.2.1 ∈ wsX10_count := by decide +kernel
  have hf155_10 : Cond.fieldLink RX10 155 "KeyOnStreet" (TX10 8).2.1 (TX10 8).2.2.1 ∈ wsX10_count := by decide +kernel
  refine q_iload_n F 1 dX10_count_0 rfl ?_
  rcases (show j = 0 ∨ j = 1 ∨ j = 2 ∨ j = 3 ∨ j = 4 ∨ j = 5 ∨ j = 6 ∨ j = 7 ∨ j = 8 ∨ j = 9 ∨ j = 10 by omega) with rfl | rfl | rfl | rfl | rfl | rfl | rfl | rfl | rfl | rfl | rfl
  · skip
    refine q_tableIn F (off := 59) (tgt := 60) dX10_count_1 (by decide) (by decide) (by decide) (by decide) ?_
    refine q_aload_n F 0 dX10_count_60 rfl ?_
    refine q_get F (ci := 10) (j := 1) (v := .ref (t 0)) (List.mem_append_left _ (List.mem_of_getElem? (i := 0) rfl)) rfl hi10 (by decide) hf21_10 rfl rfl dX10_count_61 ?_
    refine q_get F (ci := 8) (j := 2) (v := .int (nI (tN T))) (List.mem_append_right _ (List.mem_append_right _ (List.mem_append_left _ (List.mem_of_getElem? (i := 0) rfl)))) rfl hi8 (by decide) hf77_8 rfl rfl dX10_count_64 ?_
    refine q_perm pf10 ?_
    refine q_perm pf10 ?_
    refine q_perm pf10 ?_
    refine q_perm pf10 ?_
    refine q_perm pf10 ?_
    refine q_perm pf10 ?_
    refine q_perm pf10 ?_
    refine q_perm pf10 ?_
    refine q_perm pf10 ?_
    refine q_perm pf10 ?_
    refine q_perm pf10 ?_
    refine q_iret F hr_ dX10_count_67 (hp_ _ _ ⟨congrArg (fun z => some (Value.int z)) ?_, ?_⟩)
    · rfl
    · rfl
  · skip
    refine q_tableIn F (off := 67) (tgt := 68) dX10_count_1 (by decide) (by decide) (by decide) (by decide) ?_
    refine q_aload_n F 0 dX10_count_68 rfl ?_
    refine q_get F (ci := 10) (j := 2) (v := .ref (a 0)) (List.mem_append_left _ (List.mem_of_getElem? (i := 0) rfl)) rfl hi10 (by decide) hf30_10 rfl rfl dX10_count_69 ?_
    refine q_callV F (ci := 5) (As := []) (rest := []) (List.mem_append_right _ (List.mem_append_right _ (List.mem_append_right _ (List.mem_append_left _ (List.mem_of_getElem? (i := 0) rfl))))) rfl (c_X5_outAtDoor l E a t T sn B kp km ku (oC x (q 0) (t 0) (a 0) (k 0) (u 0) (r 0) g ++ (pC E q n pf ++ (tC E t T ++ (nC E a (t 0) sn B ++ (kC (a 1) kp km ku ++ (nC E k (t 0) sn1 B1 ++ (kC (k 1) kp1 km1 ku1 ++ (nC E u (t 0) sn2 B2 ++ (kC (u 1) kp2 km2 ku2 ++ (rC E r (t 0) kd rg O BO ++ (ksC kd P M U ++ tl))))))))))) (isIn.r _ (isIn.r _ (isIn.r _ (isIn.l _ _)))) (isIn.r _ (isIn.r _ (isIn.r _ (isIn.r _ (isIn.l _ _))))) (isIn.r _ (isIn.r _ (isIn.l _ _))) (isHs.r _ (isHs.r _ (isHs.r _ (isHs.r _ (isHs.r _ (isHs.r _ (isHs.r _ (isHs.r _ (isHs.r _ (isHs.r _ (isHs.r _ hH))))))))))) hn ) (List.Perm.refl _) gX10_count_X5_outAtDoor rfl rfl rfl hd_X5_outAtDoor ⟨by decide, by decide⟩ rfl (Nat.le_of_ble_eq_true rfl) dX10_count_72 ⟨Nat.le_of_ble_eq_true rfl, Nat.le_of_ble_eq_true rfl⟩ (fun v_ w_ hvw => ?_)
    rw [hvw.1, hvw.2]
    clear hvw
    refine q_at (pc' := 75) (st' := [.int (nI (cnt (outB (B 2)) 6))]) (ws' := oC x (q 0) (t 0) (a 0) (k 0) (u 0) (r 0) g ++ (pC E q n pf ++ (tC E t T ++ (nC E a (t 0) sn B ++ (kC (a 1) kp km ku ++ (nC E k (t 0) sn1 B1 ++ (kC (k 1) kp1 km1 ku1 ++ (nC E u (t 0) sn2 B2 ++ (kC (u 1) kp2 km2 ku2 ++ (rC E r (t 0) kd rg O BO ++ (ksC kd P M U ++ tl))))))))))) (k' := 0) (n' := 0) rfl rfl rfl rfl rfl ?_
    refine q_perm pf10 ?_
    refine q_perm pf10 ?_
    refine q_perm pf10 ?_
    refine q_perm pf10 ?_
    refine q_perm pf10 ?_
    refine q_perm pf10 ?_
    refine q_perm pf10 ?_
    refine q_perm pf10 ?_
    refine q_perm pf10 ?_
    refine q_perm pf10 ?_
    refine q_perm pf10 ?_
    refine q_iret F hr_ dX10_count_75 (hp_ _ _ ⟨congrArg (fun z => some (Value.int z)) ?_, ?_⟩)
    · rfl
    · rfl
  · skip
    refine q_tableIn F (off := 75) (tgt := 76) dX10_count_1 (by decide) (by decide) (by decide) (by decide) ?_
    refine q_aload_n F 0 dX10_count_76 rfl ?_
    refine q_get F (ci := 10) (j := 2) (v := .ref (a 0)) (List.mem_append_left _ (List.mem_of_getElem? (i := 0) rfl)) rfl hi10 (by decide) hf30_10 rfl rfl dX10_count_77 ?_
    refine q_get F (ci := 5) (j := 1) (v := .ref (a 1)) (List.mem_append_right _ (List.mem_append_right _ (List.mem_append_right _ (List.mem_append_left _ (List.mem_of_getElem? (i := 0) rfl))))) rfl hi5 (by decide) hf102_5 rfl rfl dX10_count_80 ?_
    refine q_get F (ci := 2) (j := 0) (v := .int kp) (List.mem_append_right _ (List.mem_append_right _ (List.mem_append_right _ (List.mem_append_right _ (List.mem_append_left _ (List.mem_of_getElem? (i := 0) rfl)))))) rfl hi2 (by decide) hf114_2 rfl rfl dX10_count_83 ?_
    refine q_perm pf10 ?_
    refine q_perm pf10 ?_
    refine q_perm pf10 ?_
    refine q_perm pf10 ?_
    refine q_perm pf10 ?_
    refine q_perm pf10 ?_
    refine q_perm pf10 ?_
    refine q_perm pf10 ?_
    refine q_perm pf10 ?_
    refine q_perm pf10 ?_
    refine q_perm pf10 ?_
    refine q_iret F hr_ dX10_count_86 (hp_ _ _ ⟨congrArg (fun z => some (Value.int z)) ?_, ?_⟩)
    · rfl
    · rfl
  · skip
    refine q_tableIn F (off := 86) (tgt := 87) dX10_count_1 (by decide) (by decide) (by decide) (by decide) ?_
    refine q_aload_n F 0 dX10_count_87 rfl ?_
    refine q_get F (ci := 10) (j := 2) (v := .ref (a 0)) (List.mem_append_left _ (List.mem_of_getElem? (i := 0) rfl)) rfl hi10 (by decide) hf30_10 rfl rfl dX10_count_88 ?_
    refine q_get F (ci := 5) (j := 1) (v := .ref (a 1)) (List.mem_append_right _ (List.mem_append_right _ (List.mem_append_right _ (List.mem_append_left _ (List.mem_of_getElem? (i := 0) rfl))))) rfl hi5 (by decide) hf102_5 rfl rfl dX10_count_91 ?_
    refine q_get F (ci := 2) (j := 1) (v := .int km) (List.mem_append_right _ (List.mem_append_right _ (List.mem_append_right _ (List.mem_append_right _ (List.mem_append_left _ (List.mem_of_getElem? (i := 0) rfl)))))) rfl hi2 (by decide) hf106_2 rfl rfl dX10_count_94 ?_
    refine q_perm pf10 ?_
    refine q_perm pf10 ?_
    refine q_perm pf10 ?_
    refine q_perm pf10 ?_
    refine q_perm pf10 ?_
    refine q_perm pf10 ?_
    refine q_perm pf10 ?_
    refine q_perm pf10 ?_
    refine q_perm pf10 ?_
    refine q_perm pf10 ?_
    refine q_perm pf10 ?_
    refine q_iret F hr_ dX10_count_97 (hp_ _ _ ⟨congrArg (fun z => some (Value.int z)) ?_, ?_⟩)
    · rfl
    · rfl
  · skip
    refine q_tableIn F (off := 97) (tgt := 98) dX10_count_1 (by decide) (by decide) (by decide) (by decide) ?_
    refine q_aload_n F 0 dX10_count_98 rfl ?_
    refine q_get F (ci := 10) (j := 2) (v := .ref (a 0)) (List.mem_append_left _ (List.mem_of_getElem? (i := 0) rfl)) rfl hi10 (by decide) hf30_10 rfl rfl dX10_count_99 ?_
    refine q_get F (ci := 5) (j := 1) (v := .ref (a 1)) (List.mem_append_right _ (List.mem_append_right _ (List.mem_append_right _ (List.mem_append_left _ (List.mem_of_getElem? (i := 0) rfl))))) rfl hi5 (by decide) hf102_5 rfl rfl dX10_count_102 ?_
    refine q_get F (ci := 2) (j := 2) (v := .int ku) (List.mem_append_right _ (List.mem_append_right _ (List.mem_append_right _ (List.mem_append_right _ (List.mem_append_left _ (List.mem_of_getElem? (i := 0) rfl)))))) rfl hi2 (by decide) hf194_2 rfl rfl dX10_count_105 ?_
    refine q_perm pf10 ?_
    refine q_perm pf10 ?_
    refine q_perm pf10 ?_
    refine q_perm pf10 ?_
    refine q_perm pf10 ?_
    refine q_perm pf10 ?_
    refine q_perm pf10 ?_
    refine q_perm pf10 ?_
    refine q_perm pf10 ?_
    refine q_perm pf10 ?_
    refine q_perm pf10 ?_
    refine q_iret F hr_ dX10_count_108 (hp_ _ _ ⟨congrArg (fun z => some (Value.int z)) ?_, ?_⟩)
    · rfl
    · rfl
  · skip
    refine q_tableIn F (off := 108) (tgt := 109) dX10_count_1 (by decide) (by decide) (by decide) (by decide) ?_
    refine q_aload_n F 0 dX10_count_109 rfl ?_
    refine q_get F (ci := 10) (j := 2) (v := .ref (a 0)) (List.mem_append_left _ (List.mem_of_getElem? (i := 0) rfl)) rfl hi10 (by decide) hf30_10 rfl rfl dX10_count_110 ?_
    refine q_callV F (ci := 5) (As := []) (rest := []) (List.mem_append_right _ (List.mem_append_right _ (List.mem_append_right _ (List.mem_append_left _ (List.mem_of_getElem? (i := 0) rfl))))) rfl (c_X5_lateOfAll l E a t T sn B kp km ku (oC x (q 0) (t 0) (a 0) (k 0) (u 0) (r 0) g ++ (pC E q n pf ++ (tC E t T ++ (nC E a (t 0) sn B ++ (kC (a 1) kp km ku ++ (nC E k (t 0) sn1 B1 ++ (kC (k 1) kp1 km1 ku1 ++ (nC E u (t 0) sn2 B2 ++ (kC (u 1) kp2 km2 ku2 ++ (rC E r (t 0) kd rg O BO ++ (ksC kd P M U ++ tl))))))))))) (isIn.r _ (isIn.r _ (isIn.r _ (isIn.l _ _)))) (isIn.r _ (isIn.r _ (isIn.r _ (isIn.r _ (isIn.l _ _))))) (isIn.r _ (isIn.r _ (isIn.l _ _))) (isHs.r _ (isHs.r _ (isHs.r _ (isHs.r _ (isHs.r _ (isHs.r _ (isHs.r _ (isHs.r _ (isHs.r _ (isHs.r _ (isHs.r _ hH))))))))))) hn ) (List.Perm.refl _) gX10_count_X5_lateOfAll rfl rfl rfl hd_X5_lateOfAll ⟨by decide, by decide⟩ rfl (Nat.le_of_ble_eq_true rfl) dX10_count_113 ⟨Nat.le_of_ble_eq_true rfl, Nat.le_of_ble_eq_true rfl⟩ (fun v_ w_ hvw => ?_)
    rw [hvw.1, hvw.2]
    clear hvw
    refine q_at (pc' := 116) (st' := [.int (sumB (B 4) 6)]) (ws' := oC x (q 0) (t 0) (a 0) (k 0) (u 0) (r 0) g ++ (pC E q n pf ++ (tC E t T ++ (nC E a (t 0) sn B ++ (kC (a 1) kp km ku ++ (nC E k (t 0) sn1 B1 ++ (kC (k 1) kp1 km1 ku1 ++ (nC E u (t 0) sn2 B2 ++ (kC (u 1) kp2 km2 ku2 ++ (rC E r (t 0) kd rg O BO ++ (ksC kd P M U ++ tl))))))))))) (k' := 0) (n' := 0) rfl rfl rfl rfl rfl ?_
    refine q_perm pf10 ?_
    refine q_perm pf10 ?_
    refine q_perm pf10 ?_
    refine q_perm pf10 ?_
    refine q_perm pf10 ?_
    refine q_perm pf10 ?_
    refine q_perm pf10 ?_
    refine q_perm pf10 ?_
    refine q_perm pf10 ?_
    refine q_perm pf10 ?_
    refine q_perm pf10 ?_
    refine q_iret F hr_ dX10_count_116 (hp_ _ _ ⟨congrArg (fun z => some (Value.int z)) ?_, ?_⟩)
    · rfl
    · rfl
  · skip
    refine q_tableIn F (off := 116) (tgt := 117) dX10_count_1 (by decide) (by decide) (by decide) (by decide) ?_
    refine q_aload_n F 0 dX10_count_117 rfl ?_
    refine q_get F (ci := 10) (j := 2) (v := .ref (a 0)) (List.mem_append_left _ (List.mem_of_getElem? (i := 0) rfl)) rfl hi10 (by decide) hf30_10 rfl rfl dX10_count_118 ?_
    refine q_callV F (ci := 5) (As := []) (rest := []) (List.mem_append_right _ (List.mem_append_right _ (List.mem_append_right _ (List.mem_append_left _ (List.mem_of_getElem? (i := 0) rfl))))) rfl (c_X5_outOfAll l E a t T sn B kp km ku (oC x (q 0) (t 0) (a 0) (k 0) (u 0) (r 0) g ++ (pC E q n pf ++ (tC E t T ++ (nC E a (t 0) sn B ++ (kC (a 1) kp km ku ++ (nC E k (t 0) sn1 B1 ++ (kC (k 1) kp1 km1 ku1 ++ (nC E u (t 0) sn2 B2 ++ (kC (u 1) kp2 km2 ku2 ++ (rC E r (t 0) kd rg O BO ++ (ksC kd P M U ++ tl))))))))))) (isIn.r _ (isIn.r _ (isIn.r _ (isIn.l _ _)))) (isIn.r _ (isIn.r _ (isIn.r _ (isIn.r _ (isIn.l _ _))))) (isIn.r _ (isIn.r _ (isIn.l _ _))) (isHs.r _ (isHs.r _ (isHs.r _ (isHs.r _ (isHs.r _ (isHs.r _ (isHs.r _ (isHs.r _ (isHs.r _ (isHs.r _ (isHs.r _ hH))))))))))) hn ) (List.Perm.refl _) gX10_count_X5_outOfAll rfl rfl rfl hd_X5_outOfAll ⟨by decide, by decide⟩ rfl (Nat.le_of_ble_eq_true rfl) dX10_count_121 ⟨Nat.le_of_ble_eq_true rfl, Nat.le_of_ble_eq_true rfl⟩ (fun v_ w_ hvw => ?_)
    rw [hvw.1, hvw.2]
    clear hvw
    refine q_at (pc' := 124) (st' := [.int (sumB (B 5) 6)]) (ws' := oC x (q 0) (t 0) (a 0) (k 0) (u 0) (r 0) g ++ (pC E q n pf ++ (tC E t T ++ (nC E a (t 0) sn B ++ (kC (a 1) kp km ku ++ (nC E k (t 0) sn1 B1 ++ (kC (k 1) kp1 km1 ku1 ++ (nC E u (t 0) sn2 B2 ++ (kC (u 1) kp2 km2 ku2 ++ (rC E r (t 0) kd rg O BO ++ (ksC kd P M U ++ tl))))))))))) (k' := 0) (n' := 0) rfl rfl rfl rfl rfl ?_
    refine q_perm pf10 ?_
    refine q_perm pf10 ?_
    refine q_perm pf10 ?_
    refine q_perm pf10 ?_
    refine q_perm pf10 ?_
    refine q_perm pf10 ?_
    refine q_perm pf10 ?_
    refine q_perm pf10 ?_
    refine q_perm pf10 ?_
    refine q_perm pf10 ?_
    refine q_perm pf10 ?_
    refine q_iret F hr_ dX10_count_124 (hp_ _ _ ⟨congrArg (fun z => some (Value.int z)) ?_, ?_⟩)
    · rfl
    · rfl
  · skip
    refine q_tableIn F (off := 124) (tgt := 125) dX10_count_1 (by decide) (by decide) (by decide) (by decide) ?_
    refine q_aload_n F 0 dX10_count_125 rfl ?_
    refine q_get F (ci := 10) (j := 2) (v := .ref (a 0)) (List.mem_append_left _ (List.mem_of_getElem? (i := 0) rfl)) rfl hi10 (by decide) hf30_10 rfl rfl dX10_count_126 ?_
    refine q_get F (ci := 5) (j := 9) (v := .int sn) (List.mem_append_right _ (List.mem_append_right _ (List.mem_append_right _ (List.mem_append_left _ (List.mem_of_getElem? (i := 0) rfl))))) rfl hi5 (by decide) hf169_5 rfl rfl dX10_count_129 ?_
    refine q_perm pf10 ?_
    refine q_perm pf10 ?_
    refine q_perm pf10 ?_
    refine q_perm pf10 ?_
    refine q_perm pf10 ?_
    refine q_perm pf10 ?_
    refine q_perm pf10 ?_
    refine q_perm pf10 ?_
    refine q_perm pf10 ?_
    refine q_perm pf10 ?_
    refine q_perm pf10 ?_
    refine q_iret F hr_ dX10_count_132 (hp_ _ _ ⟨congrArg (fun z => some (Value.int z)) ?_, ?_⟩)
    · rfl
    · rfl
  · skip
    refine q_tableIn F (off := 132) (tgt := 133) dX10_count_1 (by decide) (by decide) (by decide) (by decide) ?_
    refine q_aload_n F 0 dX10_count_133 rfl ?_
    refine q_get F (ci := 10) (j := 0) (v := .ref (q 0)) (List.mem_append_left _ (List.mem_of_getElem? (i := 0) rfl)) rfl hi10 (by decide) hf12_10 rfl rfl dX10_count_134 ?_
    refine q_get F (ci := 6) (j := 1) (v := .int (nI n)) (List.mem_append_right _ (List.mem_append_left _ (List.mem_of_getElem? (i := 0) rfl))) rfl hi6 (by decide) hf51_6 rfl rfl dX10_count_137 ?_
    refine q_perm pf10 ?_
    refine q_perm pf10 ?_
    refine q_perm pf10 ?_
    refine q_perm pf10 ?_
    refine q_perm pf10 ?_
    refine q_perm pf10 ?_
    refine q_perm pf10 ?_
    refine q_perm pf10 ?_
    refine q_perm pf10 ?_
    refine q_perm pf10 ?_
    refine q_perm pf10 ?_
    refine q_iret F hr_ dX10_count_140 (hp_ _ _ ⟨congrArg (fun z => some (Value.int z)) ?_, ?_⟩)
    · rfl
    · rfl
  · skip
    refine q_tableIn F (off := 140) (tgt := 141) dX10_count_1 (by decide) (by decide) (by decide) (by decide) ?_
    refine q_aload_n F 0 dX10_count_141 rfl ?_
    refine q_get F (ci := 10) (j := 7) (v := .int (g 7)) (List.mem_append_left _ (List.mem_of_getElem? (i := 0) rfl)) rfl hi10 (by decide) hf74_10 rfl rfl dX10_count_142 ?_
    refine q_perm pf10 ?_
    refine q_perm pf10 ?_
    refine q_perm pf10 ?_
    refine q_perm pf10 ?_
    refine q_perm pf10 ?_
    refine q_perm pf10 ?_
    refine q_perm pf10 ?_
    refine q_perm pf10 ?_
    refine q_perm pf10 ?_
    refine q_perm pf10 ?_
    refine q_perm pf10 ?_
    refine q_iret F hr_ dX10_count_145 (hp_ _ _ ⟨congrArg (fun z => some (Value.int z)) ?_, ?_⟩)
    · rfl
    · rfl
  · skip
    refine q_tableIn F (off := 145) (tgt := 146) dX10_count_1 (by decide) (by decide) (by decide) (by decide) ?_
    refine q_aload_n F 0 dX10_count_146 rfl ?_
    refine q_get F (ci := 10) (j := 8) (v := .int (g 8)) (List.mem_append_left _ (List.mem_of_getElem? (i := 0) rfl)) rfl hi10 (by decide) hf155_10 rfl rfl dX10_count_147 ?_
    refine q_perm pf10 ?_
    refine q_perm pf10 ?_
    refine q_perm pf10 ?_
    refine q_perm pf10 ?_
    refine q_perm pf10 ?_
    refine q_perm pf10 ?_
    refine q_perm pf10 ?_
    refine q_perm pf10 ?_
    refine q_perm pf10 ?_
    refine q_perm pf10 ?_
    refine q_perm pf10 ?_
    refine q_iret F hr_ dX10_count_150 (hp_ _ _ ⟨congrArg (fun z => some (Value.int z)) ?_, ?_⟩)
    · rfl
    · rfl

set_option maxHeartbeats 2000000 in
set_option maxRecDepth 100000 in
theorem c_X10_count_o (l : Launch) (E : gEnv) (x : Nat) (q t a k u r kd : Nat → Nat) (T : gTown) (g : Nat → Int32) (n : Nat) (pf : Nat → Int32) (sn : Int32) (B : Nat → Nat → Int32) (kp km ku : Int32) (sn1 : Int32) (B1 : Nat → Nat → Int32) (kp1 km1 ku1 : Int32) (sn2 : Int32) (B2 : Nat → Nat → Int32) (kp2 km2 ku2 : Int32) (rg O BO P M U : Nat → Int32) (tl : va_W) (hH : isHs T tl) (hn : tN T ≤ 6) (hq : n ≤ 30) (x1 : Int32) (hj : inI x1 (nI 0) (nI 10) = false) : Cn l E yX10_count wsX10_count (rmL 2 0 0) [.ref x, .int x1] (oC x (q 0) (t 0) (a 0) (k 0) (u 0) (r 0) g ++ (pC E q n pf ++ (tC E t T ++ (nC E a (t 0) sn B ++ (kC (a 1) kp km ku ++ (nC E k (t 0) sn1 B1 ++ (kC (k 1) kp1 km1 ku1 ++ (nC E u (t 0) sn2 B2 ++ (kC (u 1) kp2 km2 ku2 ++ (rC E r (t 0) kd rg O BO ++ (ksC kd P M U ++ tl))))))))))) 0 0 (fun v w => v = some (.int (-102)) ∧ w = oC x (q 0) (t 0) (a 0) (k 0) (u 0) (r 0) g ++ (pC E q n pf ++ (tC E t T ++ (nC E a (t 0) sn B ++ (kC (a 1) kp km ku ++ (nC E k (t 0) sn1 B1 ++ (kC (k 1) kp1 km1 ku1 ++ (nC E u (t 0) sn2 B2 ++ (kC (u 1) kp2 km2 ku2 ++ (rC E r (t 0) kd rg O BO ++ (ksC kd P M U ++ tl))))))))))) := by
  refine Cn.of (own := RX10) (cc := cX10_count) (maxL := 2) (ret := (some .int)) (lv := [(0, .ref x), (1, .int x1)]) (by decide) rfl rfl (Nat.le_of_ble_eq_true rfl) rfl ?_
  intro p_ e_ s_ m_ args_ below_ meth_ c_ A_ P_ hp_ F hr_ hnm_
  refine q_iload_n F 1 dX10_count_0 rfl ?_
  refine q_tableOut F (tgt := 151) dX10_count_1 (inI_out (lo := 0) (hi := 10) (by decide) (by decide) hj) (by decide) ?_
  refine q_bipush F dX10_count_151 (v := (-102)) (by decide) ?_
  refine q_perm pf10 ?_
  refine q_perm pf10 ?_
  refine q_perm pf10 ?_
  refine q_perm pf10 ?_
  refine q_perm pf10 ?_
  refine q_perm pf10 ?_
  refine q_perm pf10 ?_
  refine q_perm pf10 ?_
  refine q_perm pf10 ?_
  refine q_perm pf10 ?_
  refine q_perm pf10 ?_
  refine q_iret F hr_ dX10_count_153 (hp_ _ _ ⟨congrArg (fun z => some (Value.int z)) ?_, ?_⟩)
  · rfl
  · rfl
