/-! two keys, by the class -/
theorem fN_rel {α : Type} {R : α → α → Prop} {F F' : Nat → α → α} (h : ∀ i a b, R a b → R (F i a) (F' i b)) : ∀ n {a b : α}, R a b → R (fN F n a) (fN F' n b)
  | 0, _, _, hab => hab
  | n + 1, _, _, hab => h n _ _ (fN_rel h n hab)
theorem dfC_ind {T : gTown} {cl mf : Bool} : ∀ {m : Nat} {b : Nat → Bool} {p mi u lt : Int32} {d : Nat} {O O' : Nat → Int32} {acc acc' : gAc}, (acc.1 = acc'.1 ∧ acc.2.1 = acc'.2.1) → ((dfC T cl mf m b p mi u lt d O acc).1 = (dfC T cl mf m b p mi u lt d O' acc').1 ∧ (dfC T cl mf m b p mi u lt d O acc).2.1 = (dfC T cl mf m b p mi u lt d O' acc').2.1)
  | 0, _, _, _, _, _, _, _, _, _, _, h => h
  | m + 1, b, p, mi, u, lt, d, O, O', acc, acc', h => by
    rw [dfC_s, dfC_s, h.1, h.2]
    by_cases q : btr lt mi acc'.1 acc'.2.1 = false
    · rw [if_pos q, if_pos q]; exact h
    · rw [if_neg q, if_neg q]
      by_cases q2 : wb b 6 = 0
      · rw [if_pos q2, if_pos q2]; exact ⟨rfl, rfl⟩
      · rw [if_neg q2, if_neg q2]
        refine fN_rel (R := fun (a a' : gAc) => a.1 = a'.1 ∧ a.2.1 = a'.2.1) (fun i a a' ha => ?_) (tN T) h
        unfold dfF
        by_cases q3 : mB T mf b i = true
        · rw [if_pos q3, if_pos q3]; exact dfC_ind ha
        · rw [if_neg q3, if_neg q3]; exact ha
def seE (T : gTown) (b : Nat → Bool) (p m u : Int32) : Int32 := (dfC T false false 7 b p m u (nI 0) 0 (fun _ => nI 0) (ac0 fun _ => nI 0)).2.1
theorem seE_of {T : gTown} {b : Nat → Bool} {p m u : Int32} {O BO : Nat → Int32} {x y z : Int32} {B : Nat → Int32} (h : ((x, y, z, B) : gAc) = dfC T false false 7 b p m u (nI 0) 0 O (ac0 BO)) : y = seE T b p m u := by
  have e : y = (dfC T false false 7 b p m u (nI 0) 0 O (ac0 BO)).2.1 := congrArg (fun q : gAc => q.2.1) h
  rw [e]
  exact (dfC_ind (acc := ac0 BO) (acc' := ac0 fun _ => nI 0) ⟨rfl, rfl⟩).2
def tkL (T : gTown) (al : Nat → Bool) (p m u : Int32) : Nat → Int32
  | 0 => nI 2147483647
  | s + 1 => if nI s &&& wb al 6 = nI s ∧ nI s ≤ wb (fun j => al j && !tbS s j) 6 then mn (tkL T al p m u s) (mx (seE T (tbS s) p m u) (seE T (fun j => al j && !tbS s j) p m u)) else tkL T al p m u s
theorem cnt_of0 {b : Nat → Bool} : ∀ {i : Nat}, (∀ j, j < i → b j = false) → cnt b i = 0
  | 0, _ => rfl
  | i + 1, h => by rw [cnt, cnt_of0 (fun j hj => h j (Nat.lt_succ_of_lt hj)), h i (Nat.lt_succ_self i)]; rfl
theorem tk_in {al : Nat → Bool} {s : Nat} (hs : s < 64) (h : nI s &&& wb al 6 = nI s) : cnt (fun j => tbS s j && !al j) 6 = 0 := by
  rw [tb_wb hs, wb_and] at h
  refine cnt_of0 fun j hj => ?_
  have e1 := wb_bitI (fun j => tbS s j && al j) hj
  have e2 := wb_bitI (tbS s) hj
  rw [h] at e1
  have e3 := e1.symm.trans e2
  cases q1 : tbS s j <;> cases q2 : al j <;> simp_all
set_option maxHeartbeats 4000000 in
set_option maxRecDepth 100000 in
theorem c_X7_seekWithTwoKeys (l : Launch) (E : gEnv) (r t kd a : Nat → Nat) (T : gTown) (g O BO P M U : Nat → Int32) (sn : Int32) (B : Nat → Nat → Int32) (kp km ku : Int32) (tl : va_W) (hT : isIn (tC E t T) tl) (hH : isHs T tl) (hn : tN T ≤ 6) (hN : isIn (nC E a (t 0) sn B) tl) (hK : isIn (kC (a 1) kp km ku) tl) (hB : okN T (B 2)) : Cn l E yX7_seekWithTwoKeys wsX7_seekWithTwoKeys (rmL 20 0 0) [.ref (r 0), .ref (a 0)] (rC E r (t 0) kd g O BO ++ (ksC kd P M U ++ tl)) 0 0 (fun v w => v = some (.int (tkL T (shN (B 2)) kp km ku 64)) ∧ ∃ (g' O' BO' P' M' U' : Nat → Int32), w = rC E r (t 0) kd g' O' BO' ++ (ksC kd P' M' U' ++ tl)) := by
  refine Cn.of (own := RX7) (cc := cX7_seekWithTwoKeys) (maxL := 7) (ret := (some .int)) (lv := [(0, .ref (r 0)), (1, .ref (a 0))]) (by decide) rfl rfl (Nat.le_of_ble_eq_true rfl) rfl ?_
  intro p_ e_ s_ m_ args_ below_ meth_ c_ A_ P_ hp_ F hr_ hnm_
  have hf29_7 : Cond.fieldLink RX7 29 "KeyOnStreet$Rounds" (TX7 5).2.1 (TX7 5).2.2.1 ∈ wsX7_seekWithTwoKeys := by decide +kernel
  have hi7 : ∀ w ∈ u_ws RX7 TX7 9, w ∈ wsX7_seekWithTwoKeys := by decide +kernel
  have hf33_7 : Cond.fieldLink RX7 33 "KeyOnStreet$Rounds" (TX7 6).2.1 (TX7 6).2.2.1 ∈ wsX7_seekWithTwoKeys := by decide +kernel
  have hd_X5_waiting : yX5_waiting.cls = RX5 ∧ yX5_waiting.cls ≠ "java/lang/invoke/MethodHandle" ∧ yX5_waiting.cls ≠ "java/lang/invoke/VarHandle" ∧ (parseMethodDescriptor yX5_waiting.desc).map (fun d => d.parameters.length) = some 0 := by decide +kernel
  have hk57 : Cond.constant RX7 57 (nI 2147483647) ∈ wsX7_seekWithTwoKeys := by decide +kernel
  have hf42_5 : Cond.fieldLink RX7 42 "KeyOnStreet$Night" (TX5 1).2.1 (TX5 1).2.2.1 ∈ wsX7_seekWithTwoKeys := by decide +kernel
  have hi5 : ∀ w ∈ u_ws RX5 TX5 10, w ∈ wsX7_seekWithTwoKeys := by decide +kernel
  have hf50_2 : Cond.fieldLink RX7 50 "KeyOnStreet$Key" (TX2 0).2.1 (TX2 0).2.2.1 ∈ wsX7_seekWithTwoKeys := by decide +kernel
  have hi2 : ∀ w ∈ u_ws RX2 TX2 3, w ∈ wsX7_seekWithTwoKeys := by decide +kernel
  have hd_X7_seek : yX7_seek.cls = RX7 ∧ yX7_seek.cls ≠ "java/lang/invoke/MethodHandle" ∧ yX7_seek.cls ≠ "java/lang/invoke/VarHandle" ∧ (parseMethodDescriptor yX7_seek.desc).map (fun d => d.parameters.length) = some 3 := by decide +kernel
  have hf54_7 : Cond.fieldLink RX7 54 "KeyOnStreet$Rounds" (TX7 8).2.1 (TX7 8).2.2.1 ∈ wsX7_seekWithTwoKeys := by decide +kernel
  have hm58_0 : Cond.methodLink RX7 58 Lib.Math.max.name ∈ wsX7_seekWithTwoKeys := by decide +kernel
  have hm58_1 : Cond.static Lib.Math.max.name ∈ wsX7_seekWithTwoKeys := by decide +kernel
  have hm58_2 : Cond.initialized "java/lang/Math" ∈ wsX7_seekWithTwoKeys := by decide +kernel
  have hm58_3 : Cond.code Lib.Math.max.name Lib.Math.max.code 2 (some .int) ∈ wsX7_seekWithTwoKeys := by decide +kernel
  have hm64_0 : Cond.methodLink RX7 64 Lib.Math.min.name ∈ wsX7_seekWithTwoKeys := by decide +kernel
  have hm64_1 : Cond.static Lib.Math.min.name ∈ wsX7_seekWithTwoKeys := by decide +kernel
  have hm64_2 : Cond.initialized "java/lang/Math" ∈ wsX7_seekWithTwoKeys := by decide +kernel
  have hm64_3 : Cond.code Lib.Math.min.name Lib.Math.min.code 2 (some .int) ∈ wsX7_seekWithTwoKeys := by decide +kernel
  refine q_aload_n F 0 dX7_seekWithTwoKeys_0 rfl ?_
  refine q_iconst F dX7_seekWithTwoKeys_1 (v := nI 0) (by decide) ?_
  refine q_put F (j := 5) 0 rfl rfl hi7 tyX7 tyX7_ok nmX7 (by decide) hf29_7 rfl rfl (by decide) rfl (Nat.le_of_ble_eq_true rfl) dX7_seekWithTwoKeys_2 (ws' := rC E r (t 0) kd (upd g 5 (nI 0)) O BO ++ (ksC kd P M U ++ tl)) rfl ?_
  refine q_aload_n F 0 dX7_seekWithTwoKeys_5 rfl ?_
  refine q_iconst F dX7_seekWithTwoKeys_6 (v := nI 0) (by decide) ?_
  refine q_put F (j := 6) 0 rfl rfl hi7 tyX7 tyX7_ok nmX7 (by decide) hf33_7 rfl rfl (by decide) rfl (Nat.le_of_ble_eq_true rfl) dX7_seekWithTwoKeys_7 (ws' := rC E r (t 0) kd (upd (upd g 5 (nI 0)) 6 (nI 0)) O BO ++ (ksC kd P M U ++ tl)) rfl ?_
  refine q_aload_n F 1 dX7_seekWithTwoKeys_10 rfl ?_
  refine q_callV F (ci := 5) (As := []) (rest := []) (List.mem_append_right _ (List.mem_append_right _ (hN _ (List.mem_of_getElem? (i := 0) rfl)))) rfl (c_X5_waiting l E a t T sn B kp km ku (rC E r (t 0) kd (upd (upd g 5 (nI 0)) 6 (nI 0)) O BO ++ (ksC kd P M U ++ tl)) (isIn.r _ (isIn.r _ hN)) (isIn.r _ (isIn.r _ hK)) (isIn.r _ (isIn.r _ hT)) (isHs.r _ (isHs.r _ hH)) hn ) (List.Perm.refl _) gX7_seekWithTwoKeys_X5_waiting rfl rfl rfl hd_X5_waiting ⟨by decide, by decide⟩ rfl (Nat.le_of_ble_eq_true rfl) dX7_seekWithTwoKeys_11 ⟨Nat.le_of_ble_eq_true rfl, Nat.le_of_ble_eq_true rfl⟩ (fun v_ w_ hvw => ?_)
  rw [hvw.1, hvw.2]
  clear hvw
  refine q_at (pc' := 14) (st' := [.int (wtB (B 2) 6)]) (ws' := rC E r (t 0) kd (upd (upd g 5 (nI 0)) 6 (nI 0)) O BO ++ (ksC kd P M U ++ tl)) (k' := 0) (n' := 0) rfl rfl rfl rfl rfl ?_
  refine q_toi (wb (shN (B 2)) 6) (shN_wt _) ?_
  refine q_istore_n F (lv' := [(2, .int (wb (shN (B 2)) 6)), (0, .ref (r 0)), (1, .ref (a 0))]) dX7_seekWithTwoKeys_14 (by decide) rfl ?_
  refine q_ldc F hk57 dX7_seekWithTwoKeys_15 ?_
  refine q_istore_n F (lv' := [(3, .int (nI 2147483647)), (2, .int (wb (shN (B 2)) 6)), (0, .ref (r 0)), (1, .ref (a 0))]) dX7_seekWithTwoKeys_17 (by decide) rfl ?_
  refine q_iconst F dX7_seekWithTwoKeys_18 (v := nI 0) (by decide) ?_
  refine q_istore F (lv' := [(4, .int (nI 0)), (3, .int (nI 2147483647)), (2, .int (wb (shN (B 2)) 6)), (0, .ref (r 0)), (1, .ref (a 0))]) dX7_seekWithTwoKeys_19 (by decide) rfl ?_
  have lb21 : ∀ (fu : Nat) (s : Nat) (g9 : Nat → Int32) (O9 : Nat → Int32) (BO9 : Nat → Int32) (P9 : Nat → Int32) (M9 : Nat → Int32) (U9 : Nat → Int32) (hs64 : s ≤ 64) (h59 : g9 5 = bI false) (h69 : g9 6 = bI false), 64 - s < fu → gW p_ l e_ (rmL 20 0 0) s_ m_ args_ below_ meth_ c_ E A_ 7 (MQ below_ (gQ E A_ P_) args_ s_ 0 0 A_) 21 [(0, .ref (r 0)), (1, .ref (a 0)), (2, .int (wb (shN (B 2)) 6)), (3, .int (tkL T (shN (B 2)) kp km ku s)), (4, .int (nI s))] [] (rC E r (t 0) kd g9 O9 BO9 ++ (ksC kd P9 M9 U9 ++ tl)) 0 0 := by
    intro fu_21
    induction fu_21 with
    | zero => intro s g9 O9 BO9 P9 M9 U9 hs64 h59 h69 hfu; exact absurd hfu (Nat.not_lt_zero _)
    | succ fu_21 ih_21 =>
      intro s g9 O9 BO9 P9 M9 U9 hs64 h59 h69 hfu_21
      refine q_iload F 4 dX7_seekWithTwoKeys_21 rfl ?_
      refine q_bipush F dX7_seekWithTwoKeys_23 (v := nI 64) (by decide) ?_
      refine q_icmp_ge F (tgt := 112) dX7_seekWithTwoKeys_25 (by decide) (fun h_25 => ?_) (fun h_25 => ?_)
      · skip
        have hn_25 : s ≥ 64 := nf_ge_t (by omega) (by omega) h_25
        refine q_iload_n F 3 dX7_seekWithTwoKeys_112 rfl ?_
        obtain rfl : s = 64 := by omega
        exact q_iret F hr_ dX7_seekWithTwoKeys_113 (hp_ _ _ ⟨rfl, g9, O9, BO9, P9, M9, U9, rfl⟩)
      · skip
        have hn_25 : s < 64 := nf_ge_f (by omega) (by omega) h_25
        refine q_iload_n F 2 dX7_seekWithTwoKeys_28 rfl ?_
        refine q_iload F 4 dX7_seekWithTwoKeys_29 rfl ?_
        refine q_iconst F dX7_seekWithTwoKeys_31 (v := (-1)) (by decide) ?_
        refine q_ixor F dX7_seekWithTwoKeys_32 ?_
        refine q_iand F dX7_seekWithTwoKeys_33 ?_
        refine q_toi (wb (fun j => shN (B 2) j && !tbS s j) 6) (by rw [tb_wb (show s < 64 by omega)]; exact wb_ann _ _) ?_
        refine q_istore F (lv' := [(5, .int (wb (fun j => shN (B 2) j && !tbS s j) 6)), (0, .ref (r 0)), (1, .ref (a 0)), (2, .int (wb (shN (B 2)) 6)), (3, .int (tkL T (shN (B 2)) kp km ku s)), (4, .int (nI s))]) dX7_seekWithTwoKeys_34 (by decide) rfl ?_
        refine q_iload F 5 dX7_seekWithTwoKeys_36 rfl ?_
        refine q_iload_n F 3 dX7_seekWithTwoKeys_38 rfl ?_
        refine q_iand F dX7_seekWithTwoKeys_39 ?_
        refine q_iload F 5 dX7_seekWithTwoKeys_40 rfl ?_
        refine q_icmp_ne F (tgt := 106) dX7_seekWithTwoKeys_42 (by decide) (fun h_42 => ?_) (fun h_42 => ?_)
        · skip
          refine q_iinc F 5 (v := nI (s + 1)) (lv' := [(4, .int (nI (s + 1))), (5, .int (wb (fun j => shN (B 2) j && !tbS s j) 6)), (0, .ref (r 0)), (1, .ref (a 0)), (2, .int (wb (shN (B 2)) 6)), (3, .int (tkL T (shN (B 2)) kp km ku s))]) dX7_seekWithTwoKeys_106 rfl (nI_1 _) (by decide) rfl ?_
          refine q_goto F (tgt := 21) dX7_seekWithTwoKeys_109 (by decide) ?_
          refine q_lv [2, 3, 4, 5, 0] (lv' := [(0, .ref (r 0)), (1, .ref (a 0)), (2, .int (wb (shN (B 2)) 6)), (3, .int (tkL T (shN (B 2)) kp km ku s)), (4, .int (nI (s + 1)))]) rfl ?_
          refine q_to (lv' := [(0, .ref (r 0)), (1, .ref (a 0)), (2, .int (wb (shN (B 2)) 6)), (3, .int (tkL T (shN (B 2)) kp km ku (s + 1))), (4, .int (nI (s + 1)))]) (st' := []) (ws' := rC E r (t 0) kd g9 O9 BO9 ++ (ksC kd P9 M9 U9 ++ tl)) (cE (vE (rfl)) (cE (vE (rfl)) (cE (vE (rfl)) (cE (vE (congrArg Value.int (by first | rfl | (rw [tkL, if_neg (fun z => by first | exact h_42 z.1 | exact absurd z.2 (Int32.not_le.mpr h_49))]) | (rw [tkL, if_pos ⟨by first | exact h_42 | exact Classical.not_not.mp h_42, by first | exact hz_49 | exact Int32.not_lt.mp h_49⟩])))) (cE (vE (rfl)) rfl))))) rfl rfl ?_
          exact ih_21 (s + 1) g9 O9 BO9 P9 M9 U9 (by omega) (h59) (h69) (by omega)
        · skip
          have hsb := tk_sub hn (shN_lt hB) (show s < 64 by omega) (tk_in (by omega) h_42)
          refine q_iload F 5 dX7_seekWithTwoKeys_45 rfl ?_
          refine q_iload F 0 dX7_seekWithTwoKeys_47 rfl ?_
          refine q_icmp_gt F (tgt := 106) dX7_seekWithTwoKeys_49 (by decide) (fun h_49 => ?_) (fun h_49 => ?_)
          · skip
            have hz_49 := Int32.not_le.mpr h_49
            refine q_iinc F 5 (v := nI (s + 1)) (lv' := [(4, .int (nI (s + 1))), (5, .int (wb (fun j => shN (B 2) j && !tbS s j) 6)), (0, .ref (r 0)), (1, .ref (a 0)), (2, .int (wb (shN (B 2)) 6)), (3, .int (tkL T (shN (B 2)) kp km ku s))]) dX7_seekWithTwoKeys_106 rfl (nI_1 _) (by decide) rfl ?_
            refine q_goto F (tgt := 21) dX7_seekWithTwoKeys_109 (by decide) ?_
            refine q_lv [2, 3, 4, 5, 0] (lv' := [(0, .ref (r 0)), (1, .ref (a 0)), (2, .int (wb (shN (B 2)) 6)), (3, .int (tkL T (shN (B 2)) kp km ku s)), (4, .int (nI (s + 1)))]) rfl ?_
            refine q_to (lv' := [(0, .ref (r 0)), (1, .ref (a 0)), (2, .int (wb (shN (B 2)) 6)), (3, .int (tkL T (shN (B 2)) kp km ku (s + 1))), (4, .int (nI (s + 1)))]) (st' := []) (ws' := rC E r (t 0) kd g9 O9 BO9 ++ (ksC kd P9 M9 U9 ++ tl)) (cE (vE (rfl)) (cE (vE (rfl)) (cE (vE (rfl)) (cE (vE (congrArg Value.int (by first | rfl | (rw [tkL, if_neg (fun z => by first | exact h_42 z.1 | exact absurd z.2 (Int32.not_le.mpr h_49))]) | (rw [tkL, if_pos ⟨by first | exact h_42 | exact Classical.not_not.mp h_42, by first | exact hz_49 | exact Int32.not_lt.mp h_49⟩])))) (cE (vE (rfl)) rfl))))) rfl rfl ?_
            exact ih_21 (s + 1) g9 O9 BO9 P9 M9 U9 (by omega) (h59) (h69) (by omega)
          · skip
            have hz_49 := Int32.not_lt.mp h_49
            refine q_aload_n F 1 dX7_seekWithTwoKeys_52 rfl ?_
            refine q_iload F 5 dX7_seekWithTwoKeys_53 rfl ?_
            refine q_toi (wb (tbS s) 6) (tb_wb (by omega)) ?_
            refine q_aload_n F 2 dX7_seekWithTwoKeys_55 rfl ?_
            refine q_get F (ci := 5) (j := 1) (v := .ref (a 1)) (List.mem_append_right _ (List.mem_append_right _ (hN _ (List.mem_of_getElem? (i := 0) rfl)))) rfl hi5 (by decide) hf42_5 rfl rfl dX7_seekWithTwoKeys_56 ?_
            refine q_get F (ci := 2) (j := 0) (v := .int kp) (List.mem_append_right _ (List.mem_append_right _ (hK _ (List.mem_of_getElem? (i := 0) rfl)))) rfl hi2 (by decide) hf50_2 rfl rfl dX7_seekWithTwoKeys_59 ?_
            refine q_aload_n F 2 dX7_seekWithTwoKeys_62 rfl ?_
            refine q_get F (ci := 5) (j := 1) (v := .ref (a 1)) (List.mem_append_right _ (List.mem_append_right _ (hN _ (List.mem_of_getElem? (i := 0) rfl)))) rfl hi5 (by decide) hf42_5 rfl rfl dX7_seekWithTwoKeys_63 ?_
            refine q_perm pf1 ?_
            refine q_perm pf1 ?_
            refine q_callV F (ci := 7) (As := [.int (wb (tbS s) 6), .int kp, .ref (a 1)]) (rest := []) (List.mem_append_left _ (List.mem_of_getElem? (i := 0) rfl)) rfl (c_X7_seek l E r t kd T g9 O9 BO9 P9 M9 U9 false false (tbS s) (a 1) kp kp km ku tl hT hH hn h59 h69 hsb hK) (List.Perm.refl _) gX7_seekWithTwoKeys_X7_seek rfl rfl rfl hd_X7_seek ⟨by decide, by decide⟩ rfl (Nat.le_of_ble_eq_true rfl) dX7_seekWithTwoKeys_66 ⟨Nat.le_of_ble_eq_true rfl, Nat.le_of_ble_eq_true rfl⟩ (fun v_ w_ hvw => ?_)
            obtain ⟨hv_, g8_0, O8_0, BO8_0, P8_0, M8_0, U8_0, hw_, ha8_0, h58_0, h68_0⟩ := hvw
            rw [hv_, hw_]
            clear hv_ hw_
            refine q_at (pc' := 69) (st' := []) (ws' := rC E r (t 0) kd g8_0 O8_0 BO8_0 ++ (ksC kd P8_0 M8_0 U8_0 ++ tl)) (k' := 0) (n' := 0) rfl rfl rfl rfl rfl ?_
            refine q_aload_n F 1 dX7_seekWithTwoKeys_69 rfl ?_
            refine q_get F (ci := 7) (j := 8) (v := .int (g8_0 8)) (List.mem_append_left _ (List.mem_of_getElem? (i := 0) rfl)) rfl hi7 (by decide) hf54_7 rfl rfl dX7_seekWithTwoKeys_70 ?_
            refine q_toi (seE T (tbS s) kp km ku) (seE_of ha8_0) ?_
            refine q_istore F (lv' := [(6, .int (seE T (tbS s) kp km ku)), (5, .int (wb (fun j => shN (B 2) j && !tbS s j) 6)), (0, .ref (r 0)), (1, .ref (a 0)), (2, .int (wb (shN (B 2)) 6)), (3, .int (tkL T (shN (B 2)) kp km ku s)), (4, .int (nI s))]) dX7_seekWithTwoKeys_73 (by decide) rfl ?_
            refine q_aload_n F 2 dX7_seekWithTwoKeys_75 rfl ?_
            refine q_iload F 1 dX7_seekWithTwoKeys_76 rfl ?_
            refine q_aload_n F 3 dX7_seekWithTwoKeys_78 rfl ?_
            refine q_get F (ci := 5) (j := 1) (v := .ref (a 1)) (List.mem_append_right _ (List.mem_append_right _ (hN _ (List.mem_of_getElem? (i := 0) rfl)))) rfl hi5 (by decide) hf42_5 rfl rfl dX7_seekWithTwoKeys_79 ?_
            refine q_get F (ci := 2) (j := 0) (v := .int kp) (List.mem_append_right _ (List.mem_append_right _ (hK _ (List.mem_of_getElem? (i := 0) rfl)))) rfl hi2 (by decide) hf50_2 rfl rfl dX7_seekWithTwoKeys_82 ?_
            refine q_aload_n F 3 dX7_seekWithTwoKeys_85 rfl ?_
            refine q_get F (ci := 5) (j := 1) (v := .ref (a 1)) (List.mem_append_right _ (List.mem_append_right _ (hN _ (List.mem_of_getElem? (i := 0) rfl)))) rfl hi5 (by decide) hf42_5 rfl rfl dX7_seekWithTwoKeys_86 ?_
            refine q_perm pf1 ?_
            refine q_perm pf1 ?_
            refine q_callV F (ci := 7) (As := [.int (wb (fun j => shN (B 2) j && !tbS s j) 6), .int kp, .ref (a 1)]) (rest := []) (List.mem_append_left _ (List.mem_of_getElem? (i := 0) rfl)) rfl (c_X7_seek l E r t kd T g8_0 O8_0 BO8_0 P8_0 M8_0 U8_0 false false (fun j => shN (B 2) j && !tbS s j) (a 1) kp kp km ku tl hT hH hn (h58_0.trans h59) (h68_0.trans h69) (fun j hj => shN_lt hB j (by simp only [Bool.and_eq_true] at hj; exact hj.1)) hK) (List.Perm.refl _) gX7_seekWithTwoKeys_X7_seek rfl rfl rfl hd_X7_seek ⟨by decide, by decide⟩ rfl (Nat.le_of_ble_eq_true rfl) dX7_seekWithTwoKeys_89 ⟨Nat.le_of_ble_eq_true rfl, Nat.le_of_ble_eq_true rfl⟩ (fun v_ w_ hvw => ?_)
            obtain ⟨hv_, g8_1, O8_1, BO8_1, P8_1, M8_1, U8_1, hw_, ha8_1, h58_1, h68_1⟩ := hvw
            rw [hv_, hw_]
            clear hv_ hw_
            refine q_at (pc' := 92) (st' := []) (ws' := rC E r (t 0) kd g8_1 O8_1 BO8_1 ++ (ksC kd P8_1 M8_1 U8_1 ++ tl)) (k' := 0) (n' := 0) rfl rfl rfl rfl rfl ?_
            refine q_iload_n F 5 dX7_seekWithTwoKeys_92 rfl ?_
            refine q_iload F 0 dX7_seekWithTwoKeys_93 rfl ?_
            refine q_aload_n F 2 dX7_seekWithTwoKeys_95 rfl ?_
            refine q_get F (ci := 7) (j := 8) (v := .int (g8_1 8)) (List.mem_append_left _ (List.mem_of_getElem? (i := 0) rfl)) rfl hi7 (by decide) hf54_7 rfl rfl dX7_seekWithTwoKeys_96 ?_
            refine q_toi (seE T (fun j => shN (B 2) j && !tbS s j) kp km ku) (seE_of ha8_1) ?_
            refine q_mmax F hm58_0 hm58_1 hm58_2 hm58_3 (by decide) (Nat.le_of_ble_eq_true rfl) (by decide) (by decide) dX7_seekWithTwoKeys_99 ?_
            refine q_toi (mx (seE T (tbS s) kp km ku) (seE T (fun j => shN (B 2) j && !tbS s j) kp km ku)) rfl ?_
            refine q_mmin F hm64_0 hm64_1 hm64_2 hm64_3 (by decide) (Nat.le_of_ble_eq_true rfl) (by decide) (by decide) dX7_seekWithTwoKeys_102 ?_
            refine q_toi (mn (tkL T (shN (B 2)) kp km ku s) (mx (seE T (tbS s) kp km ku) (seE T (fun j => shN (B 2) j && !tbS s j) kp km ku))) rfl ?_
            refine q_istore_n F (lv' := [(3, .int (mn (tkL T (shN (B 2)) kp km ku s) (mx (seE T (tbS s) kp km ku) (seE T (fun j => shN (B 2) j && !tbS s j) kp km ku)))), (6, .int (seE T (tbS s) kp km ku)), (5, .int (wb (fun j => shN (B 2) j && !tbS s j) 6)), (0, .ref (r 0)), (1, .ref (a 0)), (2, .int (wb (shN (B 2)) 6)), (4, .int (nI s))]) dX7_seekWithTwoKeys_105 (by decide) rfl ?_
            refine q_iinc F 6 (v := nI (s + 1)) (lv' := [(4, .int (nI (s + 1))), (3, .int (mn (tkL T (shN (B 2)) kp km ku s) (mx (seE T (tbS s) kp km ku) (seE T (fun j => shN (B 2) j && !tbS s j) kp km ku)))), (6, .int (seE T (tbS s) kp km ku)), (5, .int (wb (fun j => shN (B 2) j && !tbS s j) 6)), (0, .ref (r 0)), (1, .ref (a 0)), (2, .int (wb (shN (B 2)) 6))]) dX7_seekWithTwoKeys_106 rfl (nI_1 _) (by decide) rfl ?_
            refine q_goto F (tgt := 21) dX7_seekWithTwoKeys_109 (by decide) ?_
            refine q_lv [4, 5, 6, 1, 0] (lv' := [(0, .ref (r 0)), (1, .ref (a 0)), (2, .int (wb (shN (B 2)) 6)), (3, .int (mn (tkL T (shN (B 2)) kp km ku s) (mx (seE T (tbS s) kp km ku) (seE T (fun j => shN (B 2) j && !tbS s j) kp km ku)))), (4, .int (nI (s + 1)))]) rfl ?_
            refine q_to (lv' := [(0, .ref (r 0)), (1, .ref (a 0)), (2, .int (wb (shN (B 2)) 6)), (3, .int (tkL T (shN (B 2)) kp km ku (s + 1))), (4, .int (nI (s + 1)))]) (st' := []) (ws' := rC E r (t 0) kd g8_1 O8_1 BO8_1 ++ (ksC kd P8_1 M8_1 U8_1 ++ tl)) (cE (vE (rfl)) (cE (vE (rfl)) (cE (vE (rfl)) (cE (vE (congrArg Value.int (by first | rfl | (rw [tkL, if_neg (fun z => by first | exact h_42 z.1 | exact absurd z.2 (Int32.not_le.mpr h_49))]) | (rw [tkL, if_pos ⟨by first | exact h_42 | exact Classical.not_not.mp h_42, by first | exact hz_49 | exact Int32.not_lt.mp h_49⟩])))) (cE (vE (rfl)) rfl))))) rfl rfl ?_
            exact ih_21 (s + 1) g8_1 O8_1 BO8_1 P8_1 M8_1 U8_1 (by omega) (h58_1.trans (h58_0.trans h59)) (h68_1.trans (h68_0.trans h69)) (by omega)
  refine q_lv [3, 4, 2, 1, 0] (lv' := [(0, .ref (r 0)), (1, .ref (a 0)), (2, .int (wb (shN (B 2)) 6)), (3, .int (nI 2147483647)), (4, .int (nI 0))]) rfl ?_
  refine q_to (lv' := [(0, .ref (r 0)), (1, .ref (a 0)), (2, .int (wb (shN (B 2)) 6)), (3, .int (tkL T (shN (B 2)) kp km ku 0)), (4, .int (nI 0))]) (st' := []) (ws' := rC E r (t 0) kd (upd (upd g 5 (nI 0)) 6 (nI 0)) O BO ++ (ksC kd P M U ++ tl)) (cE (vE (rfl)) (cE (vE (rfl)) (cE (vE (rfl)) (cE (vE (congrArg Value.int (by first | rfl | (rw [tkL, if_neg (fun z => by first | exact h_42 z.1 | exact absurd z.2 (Int32.not_le.mpr h_49))]) | (rw [tkL, if_pos ⟨by first | exact h_42 | exact Classical.not_not.mp h_42, by first | exact hz_49 | exact Int32.not_lt.mp h_49⟩])))) (cE (vE (rfl)) rfl))))) rfl rfl ?_
  exact lb21 (64 - 0 + 1) 0 (upd (upd g 5 (nI 0)) 6 (nI 0)) O BO P M U (by omega) (rfl) (rfl) (Nat.lt_succ_self _)
