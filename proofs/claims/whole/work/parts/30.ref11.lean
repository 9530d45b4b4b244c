/-! two keys, by the reference -/
def eaS (T : gTown) (b : Nat → Bool) (K : Nat) (z0 : gZs) (c : Nat) (s : Int32) : Int32 := if isO K c = true then smF (rnR T (odC b (tN T) K c) z0 K).2.1 s else s
def eaF (T : gTown) (b : Nat → Bool) (p m u : Int32) : Int32 := fN (eaS T b (cnt b (tN T)) (p, m, u, nI 0)) ((cnt b (tN T)) ^ (cnt b (tN T))) (-1)
def tbS (s : Nat) : Nat → Bool := fun j => s.testBit j
theorem tb_wb6 : ∀ s : Fin 64, nI s.val = wb (tbS s.val) 6 := by decide +kernel
theorem tb_wb {s : Nat} (h : s < 64) : nI s = wb (tbS s) 6 := tb_wb6 ⟨s, h⟩
theorem wb_ann6 : ∀ (b0 b1 b2 b3 b4 b5 : Bool) (c0 c1 c2 c3 c4 c5 : Bool), wb (b6 b0 b1 b2 b3 b4 b5) 6 &&& (wb (b6 c0 c1 c2 c3 c4 c5) 6 ^^^ (-1)) = wb (b6 (b0 && !c0) (b1 && !c1) (b2 && !c2) (b3 && !c3) (b4 && !c4) (b5 && !c5)) 6 := by decide +kernel
theorem wb_ann (b c : Nat → Bool) : wb b 6 &&& (wb c 6 ^^^ (-1)) = wb (fun j => b j && !c j) 6 := by rw [wb_6 b, wb_6 c, wb_ann6, wb_6 (fun j => b j && !c j)]
/-- a split of those that are shut out -/
def tkC (al : Nat → Bool) (s : Nat) : Prop := cnt (fun j => tbS s j && !al j) 6 = 0
def tkV (T : gTown) (al : Nat → Bool) (p m u : Int32) (s : Nat) : Int32 := if eaF T (tbS s) p m u ≤ eaF T (fun j => al j && !tbS s j) p m u then eaF T (fun j => al j && !tbS s j) p m u else eaF T (tbS s) p m u
def tkF (T : gTown) (al : Nat → Bool) (p m u : Int32) : Nat → Int32
  | 0 => (-1)
  | s + 1 => if cnt (fun j => tbS s j && !al j) 6 = 0 then smF (tkV T al p m u s) (tkF T al p m u s) else tkF T al p m u s
theorem tk_sub {T : gTown} {al : Nat → Bool} {s : Nat} (hn : tN T ≤ 6) (ha : ∀ j, al j = true → j < tN T) (hs : s < 64) (h : cnt (fun j => tbS s j && !al j) 6 = 0) : ∀ j, tbS s j = true → j < tN T := by
  intro j hj
  rcases Nat.lt_or_ge j 6 with q | q
  · have e := cnt_zero h j q
    simp only [hj, Bool.true_and, Bool.not_eq_false'] at e
    exact ha j e
  · exfalso
    unfold tbS at hj
    rw [Nat.testBit_lt_two_pow (Nat.lt_of_lt_of_le hs (Nat.pow_le_pow_right (by decide) q : 2 ^ 6 ≤ 2 ^ j))] at hj
    exact absurd hj (by decide)
set_option maxHeartbeats 4000000 in
set_option maxRecDepth 100000 in
theorem c_X11_earliest (l : Launch) (E : gEnv) (a : Nat → Nat) (f : Nat → Int32) (hh : Int64) (A : Nat → Nat → Int32) (tl : va_W) (T : gTown) (hm : f 2 = nI (tN T)) (hn : tN T ≤ 6) (hR : rowsOf (A 7) T) (hO : okT T) (hp3 : okP (f 3)) (b : Nat → Bool) (hb : ∀ j, b j = true → j < tN T) : Cn l E yX11_earliest wsX11_earliest (rmL 2 0 0) [.ref (a 32), .int (wb b 6)] (mC E a f hh A ++ tl) 0 0 (scP E a f hh A tl (eaF T b (f 3) (f 5) (f 4))) := by
  refine Cn.of (own := RX11) (cc := cX11_earliest) (maxL := 6) (ret := (some .int)) (lv := [(0, .ref (a 32)), (1, .int (wb b 6))]) (by decide) rfl rfl (Nat.le_of_ble_eq_true rfl) rfl ?_
  intro p_ e_ s_ m_ args_ below_ meth_ c_ A_ P_ hp_ F hr_ hnm_
  have hd_X11_layWho : yX11_layWho.cls = RX11 ∧ yX11_layWho.cls ≠ "java/lang/invoke/MethodHandle" ∧ yX11_layWho.cls ≠ "java/lang/invoke/VarHandle" ∧ (parseMethodDescriptor yX11_layWho.desc).map (fun d => d.parameters.length) = some 1 := by decide +kernel
  have hd_X11_codes : yX11_codes.cls = RX11 ∧ yX11_codes.cls ≠ "java/lang/invoke/MethodHandle" ∧ yX11_codes.cls ≠ "java/lang/invoke/VarHandle" ∧ (parseMethodDescriptor yX11_codes.desc).map (fun d => d.parameters.length) = some 0 := by decide +kernel
  have hd_X11_isOrder : yX11_isOrder.cls = RX11 ∧ yX11_isOrder.cls ≠ "java/lang/invoke/MethodHandle" ∧ yX11_isOrder.cls ≠ "java/lang/invoke/VarHandle" ∧ (parseMethodDescriptor yX11_isOrder.desc).map (fun d => d.parameters.length) = some 1 := by decide +kernel
  have hd_X11_asItIs : yX11_asItIs.cls = RX11 ∧ yX11_asItIs.cls ≠ "java/lang/invoke/MethodHandle" ∧ yX11_asItIs.cls ≠ "java/lang/invoke/VarHandle" ∧ (parseMethodDescriptor yX11_asItIs.desc).map (fun d => d.parameters.length) = some 0 := by decide +kernel
  have hf141_11 : Cond.fieldLink RX11 141 "KeyOnStreetModel" (TX11 15).2.1 (TX11 15).2.2.1 ∈ wsX11_earliest := by decide +kernel
  have hi11 : ∀ w ∈ u_ws RX11 TX11 32, w ∈ wsX11_earliest := by decide +kernel
  have hf105_11 : Cond.fieldLink RX11 105 "KeyOnStreetModel" (TX11 9).2.1 (TX11 9).2.2.1 ∈ wsX11_earliest := by decide +kernel
  have hf19_11 : Cond.fieldLink RX11 19 "KeyOnStreetModel" (TX11 12).2.1 (TX11 12).2.2.1 ∈ wsX11_earliest := by decide +kernel
  have hd_X11_opens : yX11_opens.cls = RX11 ∧ yX11_opens.cls ≠ "java/lang/invoke/MethodHandle" ∧ yX11_opens.cls ≠ "java/lang/invoke/VarHandle" ∧ (parseMethodDescriptor yX11_opens.desc).map (fun d => d.parameters.length) = some 1 := by decide +kernel
  have hK6 : cnt b (tN T) ≤ 6 := by have := cnt_le b (tN T); omega
  have hpw := pow_6 (cnt b (tN T)) hK6
  refine q_aload_n F 0 dX11_earliest_0 rfl ?_
  refine q_iload_n F 1 dX11_earliest_1 rfl ?_
  refine q_callV F (ci := 11) (As := [.int (wb b 6)]) (rest := []) (List.mem_append_left _ (List.mem_of_getElem? (i := 0) rfl)) rfl (c_X11_layWho l E a f hh A tl T hm hn b) (List.Perm.refl _) gX11_earliest_X11_layWho rfl rfl rfl hd_X11_layWho ⟨by decide, by decide⟩ rfl (Nat.le_of_ble_eq_true rfl) dX11_earliest_2 ⟨Nat.le_of_ble_eq_true rfl, Nat.le_of_ble_eq_true rfl⟩ (fun v_ w_ hvw => ?_)
  rw [hvw.1, hvw.2]
  clear hvw
  refine q_at (pc' := 5) (st' := []) (ws' := mC E a (upd f 15 (nI (cnt b (tN T)))) hh (va_up A 14 (whA b (A 14) (tN T))) ++ tl) (k' := 0) (n' := 0) rfl rfl rfl rfl rfl ?_
  refine q_iconst F dX11_earliest_5 (v := (-1)) (by decide) ?_
  refine q_istore_n F (lv' := [(2, .int (-1)), (0, .ref (a 32)), (1, .int (wb b 6))]) dX11_earliest_6 (by decide) rfl ?_
  refine q_iconst F dX11_earliest_7 (v := nI 0) (by decide) ?_
  refine q_istore_n F (lv' := [(3, .int (nI 0)), (2, .int (-1)), (0, .ref (a 32)), (1, .int (wb b 6))]) dX11_earliest_8 (by decide) rfl ?_
  have lb9 : ∀ (fu : Nat) (c : Nat) (p9 : Int32) (i9 : Int32) (u9 : Int32) (s9 : Int32) (O9 : Nat → Int32) (hc : c ≤ (cnt b (tN T)) ^ (cnt b (tN T))) (hl : s9 = fN (eaS T b (cnt b (tN T)) (f 3, f 5, f 4, nI 0)) c (-1)), (cnt b (tN T)) ^ (cnt b (tN T)) - c < fu → gW p_ l e_ (rmL 2 0 0) s_ m_ args_ below_ meth_ c_ E A_ 6 (MQ below_ (gQ E A_ P_) args_ s_ 0 0 A_) 9 [(0, .ref (a 32)), (2, .int s9), (3, .int (nI c))] [] (mC E a (upd (upd (upd (upd f 8 p9) 9 i9) 10 u9) 15 (nI (cnt b (tN T)))) hh (va_up (va_up A 12 O9) 14 (whA b (A 14) (tN T))) ++ tl) 0 0 := by
    intro fu_9
    induction fu_9 with
    | zero => intro c p9 i9 u9 s9 O9 hc hl hfu; exact absurd hfu (Nat.not_lt_zero _)
    | succ fu_9 ih_9 =>
      intro c p9 i9 u9 s9 O9 hc hl hfu_9
      refine q_iload_n F 2 dX11_earliest_9 rfl ?_
      refine q_aload_n F 0 dX11_earliest_10 rfl ?_
      refine q_callV F (ci := 11) (As := []) (rest := [.int (nI c)]) (List.mem_append_left _ (List.mem_of_getElem? (i := 0) rfl)) rfl (c_X11_codes l E a (upd (upd (upd (upd f 8 p9) 9 i9) 10 u9) 15 (nI (cnt b (tN T)))) hh (va_up (va_up A 12 O9) 14 (whA b (A 14) (tN T))) tl (cnt b (tN T)) rfl hK6) (List.Perm.refl _) gX11_earliest_X11_codes rfl rfl rfl hd_X11_codes ⟨by decide, by decide⟩ rfl (Nat.le_of_ble_eq_true rfl) dX11_earliest_11 ⟨Nat.le_of_ble_eq_true rfl, Nat.le_of_ble_eq_true rfl⟩ (fun v_ w_ hvw => ?_)
      rw [hvw.1, hvw.2]
      clear hvw
      refine q_at (pc' := 14) (st' := [.int (nI ((cnt b (tN T)) ^ (cnt b (tN T)))), .int (nI c)]) (ws' := mC E a (upd (upd (upd (upd f 8 p9) 9 i9) 10 u9) 15 (nI (cnt b (tN T)))) hh (va_up (va_up A 12 O9) 14 (whA b (A 14) (tN T))) ++ tl) (k' := 0) (n' := 0) rfl rfl rfl rfl rfl ?_
      refine q_icmp_ge F (tgt := 88) dX11_earliest_14 (by decide) (fun h_14 => ?_) (fun h_14 => ?_)
      · skip
        have hn_14 : c ≥ ((cnt b (tN T)) ^ (cnt b (tN T))) := nf_ge_t (by omega) (by omega) h_14
        refine q_iload_n F 1 dX11_earliest_88 rfl ?_
        obtain rfl : c = (cnt b (tN T)) ^ (cnt b (tN T)) := by omega
        refine q_iret F hr_ dX11_earliest_89 (hp_ _ _ ⟨congrArg (fun z => some (Value.int z)) hl, _, _, rfl, ?_, ?_⟩)
        · repeat (first | exact kpF_r _ | refine kpF_u (by decide) ?_)
        · repeat (first | exact kpA_r _ | refine kpA_u (by decide) ?_)
      · skip
        have hn_14 : c < ((cnt b (tN T)) ^ (cnt b (tN T))) := nf_ge_f (by omega) (by omega) h_14
        refine q_aload_n F 0 dX11_earliest_17 rfl ?_
        refine q_iload_n F 2 dX11_earliest_18 rfl ?_
        refine q_callV F (ci := 11) (As := [.int (nI c)]) (rest := []) (List.mem_append_left _ (List.mem_of_getElem? (i := 0) rfl)) rfl (c_X11_isOrder l E a (upd (upd (upd (upd f 8 p9) 9 i9) 10 u9) 15 (nI (cnt b (tN T)))) hh (va_up (va_up A 12 O9) 14 (whA b (A 14) (tN T))) tl (cnt b (tN T)) rfl hK6 c (by omega)) (List.Perm.refl _) gX11_earliest_X11_isOrder rfl rfl rfl hd_X11_isOrder ⟨by decide, by decide⟩ rfl (Nat.le_of_ble_eq_true rfl) dX11_earliest_19 ⟨Nat.le_of_ble_eq_true rfl, Nat.le_of_ble_eq_true rfl⟩ (fun v_ w_ hvw => ?_)
        rw [hvw.1, hvw.2]
        clear hvw
        refine q_at (pc' := 22) (st' := [.int (bI (isO (cnt b (tN T)) c))]) (ws' := mC E a (upd (upd (upd (upd f 8 p9) 9 i9) 10 u9) 15 (nI (cnt b (tN T)))) hh (va_up (va_up A 12 (odA (whA b (A 14) (tN T)) (cnt b (tN T)) c O9 (cnt b (tN T)))) 14 (whA b (A 14) (tN T))) ++ tl) (k' := 0) (n' := 0) rfl rfl rfl rfl rfl ?_
        refine q_if_eq F (tgt := 82) dX11_earliest_22 (by decide) (fun h_22 => ?_) (fun h_22 => ?_)
        · skip
          have hb_22 := bI_0 h_22
          refine q_iinc F 2 (v := nI (c + 1)) (lv' := [(3, .int (nI (c + 1))), (0, .ref (a 32)), (2, .int s9)]) dX11_earliest_82 rfl (nI_1 _) (by decide) rfl ?_
          refine q_goto F (tgt := 9) dX11_earliest_85 (by decide) ?_
          refine q_lv [1, 2, 0] (lv' := [(0, .ref (a 32)), (2, .int s9), (3, .int (nI (c + 1)))]) rfl ?_
          refine q_to (lv' := [(0, .ref (a 32)), (2, .int s9), (3, .int (nI (c + 1)))]) (st' := []) (ws' := mC E a (upd (upd (upd (upd f 8 p9) 9 i9) 10 u9) 15 (nI (cnt b (tN T)))) hh (va_up (va_up A 12 (odA (whA b (A 14) (tN T)) (cnt b (tN T)) c O9 (cnt b (tN T)))) 14 (whA b (A 14) (tN T))) ++ tl) rfl rfl rfl ?_
          exact ih_9 (c + 1) p9 i9 u9 s9 (odA (whA b (A 14) (tN T)) (cnt b (tN T)) c O9 (cnt b (tN T))) (by omega) (by show _ = eaS T b (cnt b (tN T)) (f 3, f 5, f 4, nI 0) c (fN (eaS T b (cnt b (tN T)) (f 3, f 5, f 4, nI 0)) c (-1)); rw [← hl, eaS, if_neg (by simp [*])]) (by omega)
        · skip
          have hb_22 := bI_1 h_22
          refine q_aload_n F 0 dX11_earliest_25 rfl ?_
          refine q_callV F (ci := 11) (As := []) (rest := []) (List.mem_append_left _ (List.mem_of_getElem? (i := 0) rfl)) rfl (c_X11_asItIs l E a (upd (upd (upd (upd f 8 p9) 9 i9) 10 u9) 15 (nI (cnt b (tN T)))) hh (va_up (va_up A 12 (odA (whA b (A 14) (tN T)) (cnt b (tN T)) c O9 (cnt b (tN T)))) 14 (whA b (A 14) (tN T))) tl ) (List.Perm.refl _) gX11_earliest_X11_asItIs rfl rfl rfl hd_X11_asItIs ⟨by decide, by decide⟩ rfl (Nat.le_of_ble_eq_true rfl) dX11_earliest_26 ⟨Nat.le_of_ble_eq_true rfl, Nat.le_of_ble_eq_true rfl⟩ (fun v_ w_ hvw => ?_)
          rw [hvw.1, hvw.2]
          clear hvw
          refine q_at (pc' := 29) (st' := []) (ws' := mC E a (upd (upd (upd (upd f 8 (f 3)) 9 (f 5)) 10 (f 4)) 15 (nI (cnt b (tN T)))) hh (va_up (va_up A 12 (odA (whA b (A 14) (tN T)) (cnt b (tN T)) c O9 (cnt b (tN T)))) 14 (whA b (A 14) (tN T))) ++ tl) (k' := 0) (n' := 0) rfl rfl rfl rfl rfl ?_
          refine q_iconst F dX11_earliest_29 (v := nI 0) (by decide) ?_
          refine q_istore F (lv' := [(4, .int (nI 0)), (0, .ref (a 32)), (2, .int s9), (3, .int (nI c))]) dX11_earliest_30 (by decide) rfl ?_
          have lb32 : ∀ (fu : Nat) (k : Nat) (p8 : Int32) (m8 : Int32) (u8 : Int32) (t8 : Int32) (hk : k ≤ cnt b (tN T)) (hz : ((p8, m8, u8, t8) : gZs) = rnR T (odC b (tN T) (cnt b (tN T)) c) (f 3, f 5, f 4, nI 0) k) (hp8 : okP p8), cnt b (tN T) - k < fu → gW p_ l e_ (rmL 2 0 0) s_ m_ args_ below_ meth_ c_ E A_ 6 (MQ below_ (gQ E A_ P_) args_ s_ 0 0 A_) 32 [(0, .ref (a 32)), (2, .int s9), (3, .int (nI c)), (4, .int (nI k))] [] (mC E a (upd (upd (upd (upd f 8 p8) 9 m8) 10 u8) 15 (nI (cnt b (tN T)))) hh (va_up (va_up A 12 (odA (whA b (A 14) (tN T)) (cnt b (tN T)) c O9 (cnt b (tN T)))) 14 (whA b (A 14) (tN T))) ++ tl) 0 0 := by
            intro fu_32
            induction fu_32 with
            | zero => intro k p8 m8 u8 t8 hk hz hp8 hfu; exact absurd hfu (Nat.not_lt_zero _)
            | succ fu_32 ih_32 =>
              intro k p8 m8 u8 t8 hk hz hp8 hfu_32
              refine q_iload F 3 dX11_earliest_32 rfl ?_
              refine q_aload_n F 0 dX11_earliest_34 rfl ?_
              refine q_get F (ci := 11) (j := 15) (v := .int (nI (cnt b (tN T)))) (List.mem_append_left _ (List.mem_of_getElem? (i := 0) rfl)) rfl hi11 (by decide) hf141_11 rfl rfl dX11_earliest_35 ?_
              refine q_icmp_ge F (tgt := 60) dX11_earliest_38 (by decide) (fun h_38 => ?_) (fun h_38 => ?_)
              · skip
                have hn_38 : k ≥ (cnt b (tN T)) := nf_ge_t (by omega) (by omega) h_38
                obtain rfl : k = cnt b (tN T) := by omega
                refine q_iload_n F 1 dX11_earliest_60 rfl ?_
                refine q_iconst F dX11_earliest_61 (v := (-1)) (by decide) ?_
                have jn81 : gW p_ l e_ (rmL 2 0 0) s_ m_ args_ below_ meth_ c_ E A_ 6 (MQ below_ (gQ E A_ P_) args_ s_ 0 0 A_) 81 [(0, .ref (a 32)), (2, .int s9), (3, .int (nI c)), (4, .int (nI (cnt b (tN T))))] [.int (smF m8 s9)] (mC E a (upd (upd (upd (upd f 8 p8) 9 m8) 10 u8) 15 (nI (cnt b (tN T)))) hh (va_up (va_up A 12 (odA (whA b (A 14) (tN T)) (cnt b (tN T)) c O9 (cnt b (tN T)))) 14 (whA b (A 14) (tN T))) ++ tl) 0 0 := by
                  refine q_istore_n F (lv' := [(2, .int (smF m8 s9)), (0, .ref (a 32)), (3, .int (nI c)), (4, .int (nI (cnt b (tN T))))]) dX11_earliest_81 (by decide) rfl ?_
                  refine q_iinc F 2 (v := nI (c + 1)) (lv' := [(3, .int (nI (c + 1))), (2, .int (smF m8 s9)), (0, .ref (a 32)), (4, .int (nI (cnt b (tN T))))]) dX11_earliest_82 rfl (nI_1 _) (by decide) rfl ?_
                  refine q_goto F (tgt := 9) dX11_earliest_85 (by decide) ?_
                  refine q_lv [2, 1, 0] (lv' := [(0, .ref (a 32)), (2, .int (smF m8 s9)), (3, .int (nI (c + 1)))]) rfl ?_
                  refine q_to (lv' := [(0, .ref (a 32)), (2, .int (smF m8 s9)), (3, .int (nI (c + 1)))]) (st' := []) (ws' := mC E a (upd (upd (upd (upd f 8 p8) 9 m8) 10 u8) 15 (nI (cnt b (tN T)))) hh (va_up (va_up A 12 (odA (whA b (A 14) (tN T)) (cnt b (tN T)) c O9 (cnt b (tN T)))) 14 (whA b (A 14) (tN T))) ++ tl) rfl rfl rfl ?_
                  exact ih_9 (c + 1) p8 m8 u8 (smF m8 s9) (odA (whA b (A 14) (tN T)) (cnt b (tN T)) c O9 (cnt b (tN T))) (by omega) (by show _ = eaS T b (cnt b (tN T)) (f 3, f 5, f 4, nI 0) c (fN (eaS T b (cnt b (tN T)) (f 3, f 5, f 4, nI 0)) c (-1)); rw [← hl, eaS, if_pos hb_22, ← hz]) (by omega)
                refine q_icmp_eq F (tgt := 73) dX11_earliest_62 (by decide) (fun h_62 => ?_) (fun h_62 => ?_)
                · skip
                  refine q_aload_n F 0 dX11_earliest_73 rfl ?_
                  refine q_get F (ci := 11) (j := 9) (v := .int m8) (List.mem_append_left _ (List.mem_of_getElem? (i := 0) rfl)) rfl hi11 (by decide) hf105_11 rfl rfl dX11_earliest_74 ?_
                  refine q_goto F (tgt := 81) dX11_earliest_77 (by decide) ?_
                  refine q_toi (smF m8 s9) (by rw [smF, if_pos (Or.inl h_62)]) ?_
                  exact jn81
                · skip
                  refine q_aload_n F 0 dX11_earliest_65 rfl ?_
                  refine q_get F (ci := 11) (j := 9) (v := .int m8) (List.mem_append_left _ (List.mem_of_getElem? (i := 0) rfl)) rfl hi11 (by decide) hf105_11 rfl rfl dX11_earliest_66 ?_
                  refine q_iload_n F 1 dX11_earliest_69 rfl ?_
                  refine q_icmp_ge F (tgt := 80) dX11_earliest_70 (by decide) (fun h_70 => ?_) (fun h_70 => ?_)
                  · skip
                    have hz_70 := Int32.not_lt.mpr h_70
                    refine q_iload_n F 1 dX11_earliest_80 rfl ?_
                    refine q_toi (smF m8 s9) (by rw [smF, if_neg (by rintro (z | z); exact h_62 z; exact z h_70)]) ?_
                    exact jn81
                  · skip
                    have hz_70 := Int32.not_le.mp h_70
                    refine q_aload_n F 0 dX11_earliest_73 rfl ?_
                    refine q_get F (ci := 11) (j := 9) (v := .int m8) (List.mem_append_left _ (List.mem_of_getElem? (i := 0) rfl)) rfl hi11 (by decide) hf105_11 rfl rfl dX11_earliest_74 ?_
                    refine q_goto F (tgt := 81) dX11_earliest_77 (by decide) ?_
                    refine q_toi (smF m8 s9) (by rw [smF, if_pos (Or.inr h_70)]) ?_
                    exact jn81
              · skip
                have hn_38 : k < (cnt b (tN T)) := nf_ge_f (by omega) (by omega) h_38
                have hod := odC_at (b := b) (n := tN T) (w0 := A 14) (O0 := O9) (c := c) (k := k) hn_38
                have hokn := hod.2.1
                refine q_aload_n F 0 dX11_earliest_41 rfl ?_
                refine q_aload_n F 0 dX11_earliest_42 rfl ?_
                refine q_get F (ci := 11) (j := 12) (v := .ref (a 12)) (List.mem_append_left _ (List.mem_of_getElem? (i := 0) rfl)) rfl hi11 (by decide) hf19_11 rfl rfl dX11_earliest_43 ?_
                refine q_iload F 3 dX11_earliest_46 rfl ?_
                refine q_iald F (f := odA (whA b (A 14) (tN T)) (cnt b (tN T)) c O9 (cnt b (tN T))) (List.mem_append_left _ (List.mem_of_getElem? (i := 4) rfl)) k rfl (by omega) (by decide) dX11_earliest_48 ?_
                refine q_toi (nI (odC b (tN T) (cnt b (tN T)) c k)) hod.1 ?_
                refine q_callV F (ci := 11) (As := [.int (nI (odC b (tN T) (cnt b (tN T)) c k))]) (rest := []) (List.mem_append_left _ (List.mem_of_getElem? (i := 0) rfl)) rfl (c_X11_opens l E a (upd (upd (upd (upd f 8 p8) 9 m8) 10 u8) 15 (nI (cnt b (tN T)))) hh (va_up (va_up A 12 (odA (whA b (A 14) (tN T)) (cnt b (tN T)) c O9 (cnt b (tN T)))) 14 (whA b (A 14) (tN T))) tl T hm hn hR hO (odC b (tN T) (cnt b (tN T)) c k) hokn hp8) (List.Perm.refl _) gX11_earliest_X11_opens rfl rfl rfl hd_X11_opens ⟨by decide, by decide⟩ rfl (Nat.le_of_ble_eq_true rfl) dX11_earliest_49 ⟨Nat.le_of_ble_eq_true rfl, Nat.le_of_ble_eq_true rfl⟩ (fun v_ w_ hvw => ?_)
                rw [hvw.1, hvw.2]
                clear hvw
                refine q_at (pc' := 52) (st' := [.int (ltA (tK T (odC b (tN T) (cnt b (tN T)) c k)) (tL T (odC b (tN T) (cnt b (tN T)) c k)) (tE T (odC b (tN T) (cnt b (tN T)) c k)) (brg (tK T (odC b (tN T) (cnt b (tN T)) c k)) (tP T (odC b (tN T) (cnt b (tN T)) c k)) p8 m8 u8))]) (ws' := mC E a (upd (upd (upd (upd f 8 (tP T (odC b (tN T) (cnt b (tN T)) c k))) 9 (brg (tK T (odC b (tN T) (cnt b (tN T)) c k)) (tP T (odC b (tN T) (cnt b (tN T)) c k)) p8 m8 u8)) 10 (kpu (tK T (odC b (tN T) (cnt b (tN T)) c k)) (brg (tK T (odC b (tN T) (cnt b (tN T)) c k)) (tP T (odC b (tN T) (cnt b (tN T)) c k)) p8 m8 u8))) 15 (nI (cnt b (tN T)))) hh (va_up (va_up A 12 (odA (whA b (A 14) (tN T)) (cnt b (tN T)) c O9 (cnt b (tN T)))) 14 (whA b (A 14) (tN T))) ++ tl) (k' := 0) (n' := 0) rfl rfl rfl rfl rfl ?_
                refine q_istore F (lv' := [(5, .int (ltA (tK T (odC b (tN T) (cnt b (tN T)) c k)) (tL T (odC b (tN T) (cnt b (tN T)) c k)) (tE T (odC b (tN T) (cnt b (tN T)) c k)) (brg (tK T (odC b (tN T) (cnt b (tN T)) c k)) (tP T (odC b (tN T) (cnt b (tN T)) c k)) p8 m8 u8))), (0, .ref (a 32)), (2, .int s9), (3, .int (nI c)), (4, .int (nI k))]) dX11_earliest_52 (by decide) rfl ?_
                refine q_iinc F 4 (v := nI (k + 1)) (lv' := [(4, .int (nI (k + 1))), (5, .int (ltA (tK T (odC b (tN T) (cnt b (tN T)) c k)) (tL T (odC b (tN T) (cnt b (tN T)) c k)) (tE T (odC b (tN T) (cnt b (tN T)) c k)) (brg (tK T (odC b (tN T) (cnt b (tN T)) c k)) (tP T (odC b (tN T) (cnt b (tN T)) c k)) p8 m8 u8))), (0, .ref (a 32)), (2, .int s9), (3, .int (nI c))]) dX11_earliest_54 rfl (nI_1 _) (by decide) rfl ?_
                refine q_goto F (tgt := 32) dX11_earliest_57 (by decide) ?_
                refine q_lv [2, 3, 4, 0] (lv' := [(0, .ref (a 32)), (2, .int s9), (3, .int (nI c)), (4, .int (nI (k + 1)))]) rfl ?_
                refine q_to (lv' := [(0, .ref (a 32)), (2, .int s9), (3, .int (nI c)), (4, .int (nI (k + 1)))]) (st' := []) (ws' := mC E a (upd (upd (upd (upd f 8 (tP T (odC b (tN T) (cnt b (tN T)) c k))) 9 (brg (tK T (odC b (tN T) (cnt b (tN T)) c k)) (tP T (odC b (tN T) (cnt b (tN T)) c k)) p8 m8 u8)) 10 (kpu (tK T (odC b (tN T) (cnt b (tN T)) c k)) (brg (tK T (odC b (tN T) (cnt b (tN T)) c k)) (tP T (odC b (tN T) (cnt b (tN T)) c k)) p8 m8 u8))) 15 (nI (cnt b (tN T)))) hh (va_up (va_up A 12 (odA (whA b (A 14) (tN T)) (cnt b (tN T)) c O9 (cnt b (tN T)))) 14 (whA b (A 14) (tN T))) ++ tl) rfl rfl rfl ?_
                exact ih_32 (k + 1) (tP T (odC b (tN T) (cnt b (tN T)) c k)) (brg (tK T (odC b (tN T) (cnt b (tN T)) c k)) (tP T (odC b (tN T) (cnt b (tN T)) c k)) p8 m8 u8) (kpu (tK T (odC b (tN T) (cnt b (tN T)) c k)) (brg (tK T (odC b (tN T) (cnt b (tN T)) c k)) (tP T (odC b (tN T) (cnt b (tN T)) c k)) p8 m8 u8)) (t8 + ltA (tK T (odC b (tN T) (cnt b (tN T)) c k)) (tL T (odC b (tN T) (cnt b (tN T)) c k)) (tE T (odC b (tN T) (cnt b (tN T)) c k)) (brg (tK T (odC b (tN T) (cnt b (tN T)) c k)) (tP T (odC b (tN T) (cnt b (tN T)) c k)) p8 m8 u8)) (by omega) (by show _ = rnS T (odC b (tN T) (cnt b (tN T)) c k) (rnR T (odC b (tN T) (cnt b (tN T)) c) (f 3, f 5, f 4, nI 0) k); rw [← hz]; rfl) ((hO.2 _ (odC_at (w0 := A 14) (O0 := O9) (c := c) (show k < cnt b (tN T) by omega)).2.1).2.1) (by omega)
          refine q_lv [1, 2, 3, 0] (lv' := [(0, .ref (a 32)), (2, .int s9), (3, .int (nI c)), (4, .int (nI 0))]) rfl ?_
          refine q_to (lv' := [(0, .ref (a 32)), (2, .int s9), (3, .int (nI c)), (4, .int (nI 0))]) (st' := []) (ws' := mC E a (upd (upd (upd (upd f 8 (f 3)) 9 (f 5)) 10 (f 4)) 15 (nI (cnt b (tN T)))) hh (va_up (va_up A 12 (odA (whA b (A 14) (tN T)) (cnt b (tN T)) c O9 (cnt b (tN T)))) 14 (whA b (A 14) (tN T))) ++ tl) rfl rfl rfl ?_
          exact lb32 (cnt b (tN T) - 0 + 1) 0 (f 3) (f 5) (f 4) (nI 0) (by omega) (rfl) (hp3) (Nat.lt_succ_self _)
  refine q_lv [2, 1, 0] (lv' := [(0, .ref (a 32)), (2, .int (-1)), (3, .int (nI 0))]) rfl ?_
  refine q_to (lv' := [(0, .ref (a 32)), (2, .int (-1)), (3, .int (nI 0))]) (st' := []) (ws' := mC E a (upd (upd (upd (upd f 8 (f 8)) 9 (f 9)) 10 (f 10)) 15 (nI (cnt b (tN T)))) hh (va_up (va_up A 12 (A 12)) 14 (whA b (A 14) (tN T))) ++ tl) rfl rfl (by rfl) ?_
  exact lb9 ((cnt b (tN T)) ^ (cnt b (tN T)) - 0 + 1) 0 (f 8) (f 9) (f 10) (-1) (A 12) (by omega) (rfl) (Nat.lt_succ_self _)

set_option maxHeartbeats 4000000 in
set_option maxRecDepth 100000 in
theorem c_X11_twoKeys (l : Launch) (E : gEnv) (a : Nat → Nat) (f : Nat → Int32) (hh : Int64) (A : Nat → Nat → Int32) (tl : va_W) (T : gTown) (hm : f 2 = nI (tN T)) (hn : tN T ≤ 6) (hR : rowsOf (A 7) T) (hO : okT T) (hp3 : okP (f 3)) : Cn l E yX11_twoKeys wsX11_twoKeys (rmL 3 0 0) [.ref (a 32)] (mC E a f hh A ++ tl) 0 0 (fun v w => (tN T = 0 ∧ v = some (.int (-103)) ∧ w = mC E a f hh A ++ tl) ∨ (¬ tN T = 0 ∧ scP E a f hh A tl (tkF T (shB T (A 7)) (f 3) (f 5) (f 4) 64) v w)) := by
  refine Cn.of (own := RX11) (cc := cX11_twoKeys) (maxL := 7) (ret := (some .int)) (lv := [(0, .ref (a 32))]) (by decide) rfl rfl (Nat.le_of_ble_eq_true rfl) rfl ?_
  intro p_ e_ s_ m_ args_ below_ meth_ c_ A_ P_ hp_ F hr_ hnm_
  have hd_X11_lacks : yX11_lacks.cls = RX11 ∧ yX11_lacks.cls ≠ "java/lang/invoke/MethodHandle" ∧ yX11_lacks.cls ≠ "java/lang/invoke/VarHandle" ∧ (parseMethodDescriptor yX11_lacks.desc).map (fun d => d.parameters.length) = some 0 := by decide +kernel
  have hd_X11_shutBits : yX11_shutBits.cls = RX11 ∧ yX11_shutBits.cls ≠ "java/lang/invoke/MethodHandle" ∧ yX11_shutBits.cls ≠ "java/lang/invoke/VarHandle" ∧ (parseMethodDescriptor yX11_shutBits.desc).map (fun d => d.parameters.length) = some 0 := by decide +kernel
  have hd_X11_earliest : yX11_earliest.cls = RX11 ∧ yX11_earliest.cls ≠ "java/lang/invoke/MethodHandle" ∧ yX11_earliest.cls ≠ "java/lang/invoke/VarHandle" ∧ (parseMethodDescriptor yX11_earliest.desc).map (fun d => d.parameters.length) = some 1 := by decide +kernel
  refine q_aload_n F 0 dX11_twoKeys_0 rfl ?_
  refine q_callV F (ci := 11) (As := []) (rest := []) (List.mem_append_left _ (List.mem_of_getElem? (i := 0) rfl)) rfl (c_X11_lacks l E a f hh A tl T hm hn ) (List.Perm.refl _) gX11_twoKeys_X11_lacks rfl rfl rfl hd_X11_lacks ⟨by decide, by decide⟩ rfl (Nat.le_of_ble_eq_true rfl) dX11_twoKeys_1 ⟨Nat.le_of_ble_eq_true rfl, Nat.le_of_ble_eq_true rfl⟩ (fun v_ w_ hvw => ?_)
  rw [hvw.1, hvw.2]
  clear hvw
  refine q_at (pc' := 4) (st' := [.int (bI (decide (tN T = 0)))]) (ws' := mC E a f hh A ++ tl) (k' := 0) (n' := 0) rfl rfl rfl rfl rfl ?_
  refine q_if_eq F (tgt := 10) dX11_twoKeys_4 (by decide) (fun h_4 => ?_) (fun h_4 => ?_)
  · skip
    have hb_4 := bI_0 h_4
    refine q_aload_n F 0 dX11_twoKeys_10 rfl ?_
    refine q_callV F (ci := 11) (As := []) (rest := []) (List.mem_append_left _ (List.mem_of_getElem? (i := 0) rfl)) rfl (c_X11_shutBits l E a f hh A tl T hm hn ) (List.Perm.refl _) gX11_twoKeys_X11_shutBits rfl rfl rfl hd_X11_shutBits ⟨by decide, by decide⟩ rfl (Nat.le_of_ble_eq_true rfl) dX11_twoKeys_11 ⟨Nat.le_of_ble_eq_true rfl, Nat.le_of_ble_eq_true rfl⟩ (fun v_ w_ hvw => ?_)
    rw [hvw.1, hvw.2]
    clear hvw
    refine q_at (pc' := 14) (st' := [.int (wb (shB T (A 7)) 6)]) (ws' := mC E a f hh A ++ tl) (k' := 0) (n' := 0) rfl rfl rfl rfl rfl ?_
    refine q_istore_n F (lv' := [(1, .int (wb (shB T (A 7)) 6)), (0, .ref (a 32))]) dX11_twoKeys_14 (by decide) rfl ?_
    refine q_iconst F dX11_twoKeys_15 (v := (-1)) (by decide) ?_
    refine q_istore_n F (lv' := [(2, .int (-1)), (1, .int (wb (shB T (A 7)) 6)), (0, .ref (a 32))]) dX11_twoKeys_16 (by decide) rfl ?_
    refine q_iconst F dX11_twoKeys_17 (v := nI 0) (by decide) ?_
    refine q_istore_n F (lv' := [(3, .int (nI 0)), (2, .int (-1)), (1, .int (wb (shB T (A 7)) 6)), (0, .ref (a 32))]) dX11_twoKeys_18 (by decide) rfl ?_
    have lb19 : ∀ (fu : Nat) (q : Nat) (f9 : Nat → Int32) (A9 : Nat → Nat → Int32) (hq : q ≤ 64) (hkf : kpF f f9) (hka : kpA A A9), 64 - q < fu → gW p_ l e_ (rmL 3 0 0) s_ m_ args_ below_ meth_ c_ E A_ 7 (MQ below_ (gQ E A_ P_) args_ s_ 0 0 A_) 19 [(0, .ref (a 32)), (1, .int (wb (shB T (A 7)) 6)), (2, .int (tkF T (shB T (A 7)) (f 3) (f 5) (f 4) q)), (3, .int (nI q))] [] (mC E a f9 hh A9 ++ tl) 0 0 := by
      intro fu_19
      induction fu_19 with
      | zero => intro q f9 A9 hq hkf hka hfu; exact absurd hfu (Nat.not_lt_zero _)
      | succ fu_19 ih_19 =>
        intro q f9 A9 hq hkf hka hfu_19
        refine q_iload_n F 3 dX11_twoKeys_19 rfl ?_
        refine q_bipush F dX11_twoKeys_20 (v := nI 64) (by decide) ?_
        refine q_icmp_ge F (tgt := 91) dX11_twoKeys_22 (by decide) (fun h_22 => ?_) (fun h_22 => ?_)
        · skip
          have hn_22 : q ≥ 64 := nf_ge_t (by omega) (by omega) h_22
          refine q_iload_n F 2 dX11_twoKeys_91 rfl ?_
          obtain rfl : q = 64 := by omega
          exact q_iret F hr_ dX11_twoKeys_92 (hp_ _ _ (Or.inr ⟨by simpa using hb_4, rfl, f9, A9, rfl, hkf, hka⟩))
        · skip
          have hn_22 : q < 64 := nf_ge_f (by omega) (by omega) h_22
          refine q_iload_n F 3 dX11_twoKeys_25 rfl ?_
          refine q_iload_n F 1 dX11_twoKeys_26 rfl ?_
          refine q_iconst F dX11_twoKeys_27 (v := (-1)) (by decide) ?_
          refine q_ixor F dX11_twoKeys_28 ?_
          refine q_iand F dX11_twoKeys_29 ?_
          refine q_toi (wb (fun j => tbS q j && !shB T (A 7) j) 6) (by rw [tb_wb (show q < 64 by omega)]; exact wb_ann _ _) ?_
          refine q_if_ne F (tgt := 85) dX11_twoKeys_30 (by decide) (fun h_30 => ?_) (fun h_30 => ?_)
          · skip
            have hcz := fun z => h_30 ((wb_0 _).mpr z)
            refine q_iinc F 3 (v := nI (q + 1)) (lv' := [(3, .int (nI (q + 1))), (0, .ref (a 32)), (1, .int (wb (shB T (A 7)) 6)), (2, .int (tkF T (shB T (A 7)) (f 3) (f 5) (f 4) q))]) dX11_twoKeys_85 rfl (nI_1 _) (by decide) rfl ?_
            refine q_goto F (tgt := 19) dX11_twoKeys_88 (by decide) ?_
            refine q_lv [1, 2, 3, 0] (lv' := [(0, .ref (a 32)), (1, .int (wb (shB T (A 7)) 6)), (2, .int (tkF T (shB T (A 7)) (f 3) (f 5) (f 4) q)), (3, .int (nI (q + 1)))]) rfl ?_
            refine q_to (lv' := [(0, .ref (a 32)), (1, .int (wb (shB T (A 7)) 6)), (2, .int (tkF T (shB T (A 7)) (f 3) (f 5) (f 4) (q + 1))), (3, .int (nI (q + 1)))]) (st' := []) (ws' := mC E a f9 hh A9 ++ tl) (cE (vE (rfl)) (cE (vE (rfl)) (cE (vE (congrArg Value.int (by rw [tkF, if_neg hcz]))) (cE (vE (rfl)) rfl)))) rfl rfl ?_
            exact ih_19 (q + 1) f9 A9 (by omega) (hkf) (hka) (by omega)
          · skip
            have hcz := (wb_0 _).mp h_30
            have hsub := tk_sub hn shB_lt (by omega) hcz
            refine q_aload_n F 0 dX11_twoKeys_33 rfl ?_
            refine q_iload_n F 3 dX11_twoKeys_34 rfl ?_
            refine q_toi (wb (tbS q) 6) (tb_wb (by omega)) ?_
            refine q_callV F (ci := 11) (As := [.int (wb (tbS q) 6)]) (rest := []) (List.mem_append_left _ (List.mem_of_getElem? (i := 0) rfl)) rfl (c_X11_earliest l E a f9 hh A9 tl T ((hkf 2 rfl).trans hm) hn (by rw [hka 7 rfl]; exact hR) hO (by rw [hkf 3 rfl]; exact hp3) (tbS q) hsub) (List.Perm.refl _) gX11_twoKeys_X11_earliest rfl rfl rfl hd_X11_earliest ⟨by decide, by decide⟩ rfl (Nat.le_of_ble_eq_true rfl) dX11_twoKeys_35 ⟨Nat.le_of_ble_eq_true rfl, Nat.le_of_ble_eq_true rfl⟩ (fun v_ w_ hvw => ?_)
            obtain ⟨hv_, f1, A1, hw_, hkf10, hka10⟩ := hvw
            rw [hv_, hw_]
            clear hv_ hw_
            have hkf1 : kpF f f1 := fun z hz => (hkf10 z hz).trans (hkf z hz)
            have hka1 : kpA A A1 := fun z hz => (hka10 z hz).trans (hka z hz)
            refine q_at (pc' := 38) (st' := [.int (eaF T (tbS q) (f9 3) (f9 5) (f9 4))]) (ws' := mC E a f1 hh A1 ++ tl) (k' := 0) (n' := 0) rfl rfl rfl rfl rfl ?_
            refine q_toi (eaF T (tbS q) (f 3) (f 5) (f 4)) (by rw [hkf 3 rfl, hkf 5 rfl, hkf 4 rfl]) ?_
            refine q_istore F (lv' := [(4, .int (eaF T (tbS q) (f 3) (f 5) (f 4))), (0, .ref (a 32)), (1, .int (wb (shB T (A 7)) 6)), (2, .int (tkF T (shB T (A 7)) (f 3) (f 5) (f 4) q)), (3, .int (nI q))]) dX11_twoKeys_38 (by decide) rfl ?_
            refine q_aload_n F 1 dX11_twoKeys_40 rfl ?_
            refine q_iload_n F 2 dX11_twoKeys_41 rfl ?_
            refine q_iload_n F 4 dX11_twoKeys_42 rfl ?_
            refine q_iconst F dX11_twoKeys_43 (v := (-1)) (by decide) ?_
            refine q_ixor F dX11_twoKeys_44 ?_
            refine q_iand F dX11_twoKeys_45 ?_
            refine q_toi (wb (fun j => shB T (A 7) j && !tbS q j) 6) (by rw [tb_wb (show q < 64 by omega)]; exact wb_ann _ _) ?_
            refine q_callV F (ci := 11) (As := [.int (wb (fun j => shB T (A 7) j && !tbS q j) 6)]) (rest := []) (List.mem_append_left _ (List.mem_of_getElem? (i := 0) rfl)) rfl (c_X11_earliest l E a f1 hh A1 tl T ((hkf1 2 rfl).trans hm) hn (by rw [hka1 7 rfl]; exact hR) hO (by rw [hkf1 3 rfl]; exact hp3) (fun j => shB T (A 7) j && !tbS q j) (fun j hj => shB_lt j (by simp only [Bool.and_eq_true] at hj; exact hj.1))) (List.Perm.refl _) gX11_twoKeys_X11_earliest rfl rfl rfl hd_X11_earliest ⟨by decide, by decide⟩ rfl (Nat.le_of_ble_eq_true rfl) dX11_twoKeys_46 ⟨Nat.le_of_ble_eq_true rfl, Nat.le_of_ble_eq_true rfl⟩ (fun v_ w_ hvw => ?_)
            obtain ⟨hv_, f2, A2, hw_, hkf20, hka20⟩ := hvw
            rw [hv_, hw_]
            clear hv_ hw_
            have hkf2 : kpF f f2 := fun z hz => (hkf20 z hz).trans (hkf1 z hz)
            have hka2 : kpA A A2 := fun z hz => (hka20 z hz).trans (hka1 z hz)
            refine q_at (pc' := 49) (st' := [.int (eaF T (fun j => shB T (A 7) j && !tbS q j) (f1 3) (f1 5) (f1 4))]) (ws' := mC E a f2 hh A2 ++ tl) (k' := 0) (n' := 0) rfl rfl rfl rfl rfl ?_
            refine q_toi (eaF T (fun j => shB T (A 7) j && !tbS q j) (f 3) (f 5) (f 4)) (by rw [hkf1 3 rfl, hkf1 5 rfl, hkf1 4 rfl]) ?_
            refine q_istore F (lv' := [(5, .int (eaF T (fun j => shB T (A 7) j && !tbS q j) (f 3) (f 5) (f 4))), (4, .int (eaF T (tbS q) (f 3) (f 5) (f 4))), (0, .ref (a 32)), (1, .int (wb (shB T (A 7)) 6)), (2, .int (tkF T (shB T (A 7)) (f 3) (f 5) (f 4) q)), (3, .int (nI q))]) dX11_twoKeys_49 (by decide) rfl ?_
            refine q_iload F 1 dX11_twoKeys_51 rfl ?_
            refine q_iload F 0 dX11_twoKeys_53 rfl ?_
            have jn65 : gW p_ l e_ (rmL 3 0 0) s_ m_ args_ below_ meth_ c_ E A_ 7 (MQ below_ (gQ E A_ P_) args_ s_ 0 0 A_) 65 [(5, .int (eaF T (fun j => shB T (A 7) j && !tbS q j) (f 3) (f 5) (f 4))), (4, .int (eaF T (tbS q) (f 3) (f 5) (f 4))), (0, .ref (a 32)), (1, .int (wb (shB T (A 7)) 6)), (2, .int (tkF T (shB T (A 7)) (f 3) (f 5) (f 4) q)), (3, .int (nI q))] [.int (tkV T (shB T (A 7)) (f 3) (f 5) (f 4) q)] (mC E a f2 hh A2 ++ tl) 0 0 := by
              refine q_istore F (lv' := [(6, .int (tkV T (shB T (A 7)) (f 3) (f 5) (f 4) q)), (5, .int (eaF T (fun j => shB T (A 7) j && !tbS q j) (f 3) (f 5) (f 4))), (4, .int (eaF T (tbS q) (f 3) (f 5) (f 4))), (0, .ref (a 32)), (1, .int (wb (shB T (A 7)) 6)), (2, .int (tkF T (shB T (A 7)) (f 3) (f 5) (f 4) q)), (3, .int (nI q))]) dX11_twoKeys_65 (by decide) rfl ?_
              refine q_iload_n F 5 dX11_twoKeys_67 rfl ?_
              refine q_iconst F dX11_twoKeys_68 (v := (-1)) (by decide) ?_
              have jn84 : gW p_ l e_ (rmL 3 0 0) s_ m_ args_ below_ meth_ c_ E A_ 7 (MQ below_ (gQ E A_ P_) args_ s_ 0 0 A_) 84 [(6, .int (tkV T (shB T (A 7)) (f 3) (f 5) (f 4) q)), (5, .int (eaF T (fun j => shB T (A 7) j && !tbS q j) (f 3) (f 5) (f 4))), (4, .int (eaF T (tbS q) (f 3) (f 5) (f 4))), (0, .ref (a 32)), (1, .int (wb (shB T (A 7)) 6)), (2, .int (tkF T (shB T (A 7)) (f 3) (f 5) (f 4) q)), (3, .int (nI q))] [.int (smF (tkV T (shB T (A 7)) (f 3) (f 5) (f 4) q) (tkF T (shB T (A 7)) (f 3) (f 5) (f 4) q))] (mC E a f2 hh A2 ++ tl) 0 0 := by
                refine q_istore_n F (lv' := [(2, .int (smF (tkV T (shB T (A 7)) (f 3) (f 5) (f 4) q) (tkF T (shB T (A 7)) (f 3) (f 5) (f 4) q))), (6, .int (tkV T (shB T (A 7)) (f 3) (f 5) (f 4) q)), (5, .int (eaF T (fun j => shB T (A 7) j && !tbS q j) (f 3) (f 5) (f 4))), (4, .int (eaF T (tbS q) (f 3) (f 5) (f 4))), (0, .ref (a 32)), (1, .int (wb (shB T (A 7)) 6)), (3, .int (nI q))]) dX11_twoKeys_84 (by decide) rfl ?_
                refine q_iinc F 6 (v := nI (q + 1)) (lv' := [(3, .int (nI (q + 1))), (2, .int (smF (tkV T (shB T (A 7)) (f 3) (f 5) (f 4) q) (tkF T (shB T (A 7)) (f 3) (f 5) (f 4) q))), (6, .int (tkV T (shB T (A 7)) (f 3) (f 5) (f 4) q)), (5, .int (eaF T (fun j => shB T (A 7) j && !tbS q j) (f 3) (f 5) (f 4))), (4, .int (eaF T (tbS q) (f 3) (f 5) (f 4))), (0, .ref (a 32)), (1, .int (wb (shB T (A 7)) 6))]) dX11_twoKeys_85 rfl (nI_1 _) (by decide) rfl ?_
                refine q_goto F (tgt := 19) dX11_twoKeys_88 (by decide) ?_
                refine q_lv [5, 6, 1, 0] (lv' := [(0, .ref (a 32)), (1, .int (wb (shB T (A 7)) 6)), (2, .int (smF (tkV T (shB T (A 7)) (f 3) (f 5) (f 4) q) (tkF T (shB T (A 7)) (f 3) (f 5) (f 4) q))), (3, .int (nI (q + 1)))]) rfl ?_
                refine q_to (lv' := [(0, .ref (a 32)), (1, .int (wb (shB T (A 7)) 6)), (2, .int (tkF T (shB T (A 7)) (f 3) (f 5) (f 4) (q + 1))), (3, .int (nI (q + 1)))]) (st' := []) (ws' := mC E a f2 hh A2 ++ tl) (cE (vE (rfl)) (cE (vE (rfl)) (cE (vE (congrArg Value.int (by rw [tkF, if_pos hcz]))) (cE (vE (rfl)) rfl)))) rfl rfl ?_
                exact ih_19 (q + 1) f2 A2 (by omega) (hkf2) (hka2) (by omega)
              refine q_icmp_eq F (tgt := 78) dX11_twoKeys_69 (by decide) (fun h_69 => ?_) (fun h_69 => ?_)
              · skip
                refine q_iload F 0 dX11_twoKeys_78 rfl ?_
                refine q_goto F (tgt := 84) dX11_twoKeys_80 (by decide) ?_
                refine q_toi (smF (tkV T (shB T (A 7)) (f 3) (f 5) (f 4) q) (tkF T (shB T (A 7)) (f 3) (f 5) (f 4) q)) (by rw [smF, if_pos (Or.inl h_69)]) ?_
                exact jn84
              · skip
                refine q_iload F 0 dX11_twoKeys_72 rfl ?_
                refine q_iload_n F 5 dX11_twoKeys_74 rfl ?_
                refine q_icmp_ge F (tgt := 83) dX11_twoKeys_75 (by decide) (fun h_75 => ?_) (fun h_75 => ?_)
                · skip
                  have hz_75 := Int32.not_lt.mpr h_75
                  refine q_iload_n F 5 dX11_twoKeys_83 rfl ?_
                  refine q_toi (smF (tkV T (shB T (A 7)) (f 3) (f 5) (f 4) q) (tkF T (shB T (A 7)) (f 3) (f 5) (f 4) q)) (by rw [smF, if_neg (by rintro (z | z); exact h_69 z; exact z h_75)]) ?_
                  exact jn84
                · skip
                  have hz_75 := Int32.not_le.mp h_75
                  refine q_iload F 0 dX11_twoKeys_78 rfl ?_
                  refine q_goto F (tgt := 84) dX11_twoKeys_80 (by decide) ?_
                  refine q_toi (smF (tkV T (shB T (A 7)) (f 3) (f 5) (f 4) q) (tkF T (shB T (A 7)) (f 3) (f 5) (f 4) q)) (by rw [smF, if_pos (Or.inr h_75)]) ?_
                  exact jn84
            refine q_icmp_le F (tgt := 63) dX11_twoKeys_55 (by decide) (fun h_55 => ?_) (fun h_55 => ?_)
            · skip
              have hz_55 := Int32.not_lt.mpr h_55
              refine q_iload F 0 dX11_twoKeys_63 rfl ?_
              refine q_toi (tkV T (shB T (A 7)) (f 3) (f 5) (f 4) q) (by rw [tkV, if_pos h_55]) ?_
              exact jn65
            · skip
              have hz_55 := Int32.not_le.mp h_55
              refine q_iload F 1 dX11_twoKeys_58 rfl ?_
              refine q_goto F (tgt := 65) dX11_twoKeys_60 (by decide) ?_
              refine q_toi (tkV T (shB T (A 7)) (f 3) (f 5) (f 4) q) (by rw [tkV, if_neg h_55]) ?_
              exact jn65
    refine q_lv [3, 2, 1, 0] (lv' := [(0, .ref (a 32)), (1, .int (wb (shB T (A 7)) 6)), (2, .int (-1)), (3, .int (nI 0))]) rfl ?_
    refine q_to (lv' := [(0, .ref (a 32)), (1, .int (wb (shB T (A 7)) 6)), (2, .int (tkF T (shB T (A 7)) (f 3) (f 5) (f 4) 0)), (3, .int (nI 0))]) (st' := []) (ws' := mC E a f hh A ++ tl) (cE (vE (rfl)) (cE (vE (rfl)) (cE (vE (congrArg Value.int (by rfl))) (cE (vE (rfl)) rfl)))) rfl rfl ?_
    exact lb19 (64 - 0 + 1) 0 f A (by omega) (kpF_r _) (kpA_r _) (Nat.lt_succ_self _)
  · skip
    have hb_4 := bI_1 h_4
    refine q_bipush F dX11_twoKeys_7 (v := (-103)) (by decide) ?_
    exact q_iret F hr_ dX11_twoKeys_9 (hp_ _ _ (Or.inl ⟨by simpa using hb_4, rfl, rfl⟩))
