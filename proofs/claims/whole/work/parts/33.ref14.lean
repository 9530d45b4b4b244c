/-! reading the town, saying, by the reference -/
theorem ftF_le (p : Nat → Int32) (pm : Nat) : ∀ n k, ftF p pm n k ≤ k + n
  | 0, _ => Nat.le_refl _
  | n + 1, k => by
    rw [ftF]
    split
    · have := ftF_le p pm n (k + 1); omega
    · omega
def twJ (p r : Nat → Int32) (i : Nat) : Nat → Nat → Int32
  | 0 => upd r (8 * i) (kbF (p (5 * i)))
  | j + 1 => upd (twJ p r i j) (8 * i + (j + 1)) (p (5 * i + (j + 1)) - nI 48)
def twR (p r : Nat → Int32) : Nat → Nat → Int32
  | 0 => r
  | i + 1 => upd (upd (upd (upd (twJ p (twR p r i) i 3) (8 * i + 4) (-1)) (8 * i + 5) (-1)) (8 * i + 6) (nI 0)) (8 * i + 7) (nI 0)
set_option maxHeartbeats 4000000 in
set_option maxRecDepth 100000 in
theorem c_X11_say (l : Launch) (E : gEnv) (a : Nat → Nat) (f : Nat → Int32) (hh : Int64) (A : Nat → Nat → Int32) (tl : va_W) (x : Int64) : Cn l E yX11_say wsX11_say (rmL 0 0 0) [.ref (a 32), .long x] (mC E a f hh A ++ tl) 0 0 (fun v w => v = none ∧ w = mC E a f ((31 : Int64) * hh + x) A ++ tl) := by
  refine Cn.of (own := RX11) (cc := cX11_say) (maxL := 3) (ret := none) (lv := [(0, .ref (a 32)), (1, .long x)]) (by decide) rfl rfl (Nat.le_of_ble_eq_true rfl) rfl ?_
  intro p_ e_ s_ m_ args_ below_ meth_ c_ A_ P_ hp_ F hr_ hnm_
  have hk228 : Cond.constantLong RX11 228 (31) ∈ wsX11_say := by decide +kernel
  have hf230_11 : Cond.fieldLink RX11 230 "KeyOnStreetModel" (TX11 31).2.1 (TX11 31).2.2.1 ∈ wsX11_say := by decide +kernel
  have hi11 : ∀ w ∈ u_ws RX11 TX11 32, w ∈ wsX11_say := by decide +kernel
  refine q_aload_n F 0 dX11_say_0 rfl ?_
  refine q_ldc2 F hk228 dX11_say_1 ?_
  refine q_aload_n F 0 dX11_say_4 rfl ?_
  refine q_get F (ci := 11) (j := 31) (v := .long hh) (List.mem_append_left _ (List.mem_of_getElem? (i := 0) rfl)) rfl hi11 (by decide) hf230_11 rfl rfl dX11_say_5 ?_
  refine q_lmul F dX11_say_8 ?_
  refine q_lload_n F 1 dX11_say_9 rfl ?_
  refine q_ladd F dX11_say_10 ?_
  refine q_put F (j := 31) 0 rfl rfl hi11 tyX11 tyX11_ok nmX11 (by decide) hf230_11 rfl rfl rfl rfl (Nat.le_of_ble_eq_true rfl) dX11_say_11 (ws' := mC E a f (((31 : Int64) * hh) + x) A ++ tl) rfl ?_
  refine q_vret F hr_ dX11_say_14 (hp_ _ _ ⟨rfl, ?_⟩)
  rfl

set_option maxHeartbeats 4000000 in
set_option maxRecDepth 100000 in
theorem c_X11_town (l : Launch) (E : gEnv) (a : Nat → Nat) (f : Nat → Int32) (hh : Int64) (A : Nat → Nat → Int32) (tl : va_W) (pm : Nat) (h1 : f 1 = nI pm) (hpm : pm ≤ 30) : Cn l E yX11_town wsX11_town (rmL 3 0 0) [.ref (a 32)] (mC E a f hh A ++ tl) 0 0 (fun v w => ((ftF (A 0) pm 31 0 < pm ∨ pm % 5 ≠ 4 ∨ pm < 14) ∧ v = some (.int (-103)) ∧ w = mC E a f hh A ++ tl) ∨ (¬ (ftF (A 0) pm 31 0 < pm ∨ pm % 5 ≠ 4 ∨ pm < 14) ∧ v = some (.int (nI (pm / 5 + 1))) ∧ w = mC E a (upd (upd (upd (upd (upd (upd (upd f 1 (nI 0)) 2 (nI (pm / 5 + 1))) 3 (nI 0)) 4 (nI 0)) 5 (nI 0)) 6 (f 6 + nI 1)) 20 (nI 0)) hh (va_up A 7 (twR (A 0) (A 7) (pm / 5 + 1))) ++ tl)) := by
  refine Cn.of (own := RX11) (cc := cX11_town) (maxL := 3) (ret := (some .int)) (lv := [(0, .ref (a 32))]) (by decide) rfl rfl (Nat.le_of_ble_eq_true rfl) rfl ?_
  intro p_ e_ s_ m_ args_ below_ meth_ c_ A_ P_ hp_ F hr_ hnm_
  have hd_X11_faultOf : yX11_faultOf.cls = RX11 ∧ yX11_faultOf.cls ≠ "java/lang/invoke/MethodHandle" ∧ yX11_faultOf.cls ≠ "java/lang/invoke/VarHandle" ∧ (parseMethodDescriptor yX11_faultOf.desc).map (fun d => d.parameters.length) = some 0 := by decide +kernel
  have hf50_11 : Cond.fieldLink RX11 50 "KeyOnStreetModel" (TX11 1).2.1 (TX11 1).2.2.1 ∈ wsX11_town := by decide +kernel
  have hi11 : ∀ w ∈ u_ws RX11 TX11 32, w ∈ wsX11_town := by decide +kernel
  have hf67_11 : Cond.fieldLink RX11 67 "KeyOnStreetModel" (TX11 2).2.1 (TX11 2).2.2.1 ∈ wsX11_town := by decide +kernel
  have hf70_11 : Cond.fieldLink RX11 70 "KeyOnStreetModel" (TX11 3).2.1 (TX11 3).2.2.1 ∈ wsX11_town := by decide +kernel
  have hf73_11 : Cond.fieldLink RX11 73 "KeyOnStreetModel" (TX11 4).2.1 (TX11 4).2.2.1 ∈ wsX11_town := by decide +kernel
  have hf76_11 : Cond.fieldLink RX11 76 "KeyOnStreetModel" (TX11 5).2.1 (TX11 5).2.2.1 ∈ wsX11_town := by decide +kernel
  have hf79_11 : Cond.fieldLink RX11 79 "KeyOnStreetModel" (TX11 20).2.1 (TX11 20).2.2.1 ∈ wsX11_town := by decide +kernel
  have hf82_11 : Cond.fieldLink RX11 82 "KeyOnStreetModel" (TX11 6).2.1 (TX11 6).2.2.1 ∈ wsX11_town := by decide +kernel
  have hf13_11 : Cond.fieldLink RX11 13 "KeyOnStreetModel" (TX11 7).2.1 (TX11 7).2.2.1 ∈ wsX11_town := by decide +kernel
  have hf7_11 : Cond.fieldLink RX11 7 "KeyOnStreetModel" (TX11 0).2.1 (TX11 0).2.2.1 ∈ wsX11_town := by decide +kernel
  have hd_X11_kindBy : yX11_kindBy.cls ≠ "java/lang/invoke/MethodHandle" ∧ yX11_kindBy.cls ≠ "java/lang/invoke/VarHandle" ∧ (parseMethodDescriptor yX11_kindBy.desc).map (fun d => d.parameters.length) = some 1 := by decide +kernel
  have hft := ftF_le (A 0) pm 31 0
  refine q_aload_n F 0 dX11_town_0 rfl ?_
  refine q_callV F (ci := 11) (As := []) (rest := []) (List.mem_append_left _ (List.mem_of_getElem? (i := 0) rfl)) rfl (c_X11_faultOf l E a f hh A tl pm h1 hpm) (List.Perm.refl _) gX11_town_X11_faultOf rfl rfl rfl hd_X11_faultOf ⟨by decide, by decide⟩ rfl (Nat.le_of_ble_eq_true rfl) dX11_town_1 ⟨Nat.le_of_ble_eq_true rfl, Nat.le_of_ble_eq_true rfl⟩ (fun v_ w_ hvw => ?_)
  rw [hvw.1, hvw.2]
  clear hvw
  refine q_at (pc' := 4) (st' := [.int (nI (ftF (A 0) pm 31 0))]) (ws' := mC E a f hh A ++ tl) (k' := 0) (n' := 0) rfl rfl rfl rfl rfl ?_
  refine q_aload_n F 0 dX11_town_4 rfl ?_
  refine q_get F (ci := 11) (j := 1) (v := .int (f 1)) (List.mem_append_left _ (List.mem_of_getElem? (i := 0) rfl)) rfl hi11 (by decide) hf50_11 rfl rfl dX11_town_5 ?_
  refine q_toi (nI pm) (h1) ?_
  refine q_icmp_lt F (tgt := 30) dX11_town_8 (by decide) (fun h_8 => ?_) (fun h_8 => ?_)
  · skip
    have hn_8 : (ftF (A 0) pm 31 0) < pm := nf_lt_t (by omega) (by omega) h_8
    refine q_bipush F dX11_town_30 (v := (-103)) (by decide) ?_
    exact q_iret F hr_ dX11_town_32 (hp_ _ _ (Or.inl ⟨by omega, rfl, rfl⟩))
  · skip
    have hn_8 : (ftF (A 0) pm 31 0) ≥ pm := nf_lt_f (by omega) (by omega) h_8
    refine q_aload_n F 0 dX11_town_11 rfl ?_
    refine q_get F (ci := 11) (j := 1) (v := .int (f 1)) (List.mem_append_left _ (List.mem_of_getElem? (i := 0) rfl)) rfl hi11 (by decide) hf50_11 rfl rfl dX11_town_12 ?_
    refine q_toi (nI pm) (h1) ?_
    refine q_iconst F dX11_town_15 (v := nI 5) (by decide) ?_
    refine q_irem F dX11_town_16 (nI_ne0 (by omega) (by omega)) ?_
    refine q_toi (nI (pm % 5)) (pk_rem (by omega) (by omega) (by omega)) ?_
    refine q_iconst F dX11_town_17 (v := nI 4) (by decide) ?_
    refine q_icmp_ne F (tgt := 30) dX11_town_18 (by decide) (fun h_18 => ?_) (fun h_18 => ?_)
    · skip
      have hn_18 : (pm % 5) ≠ 4 := nf_ne_t (by omega) (by omega) h_18
      refine q_bipush F dX11_town_30 (v := (-103)) (by decide) ?_
      exact q_iret F hr_ dX11_town_32 (hp_ _ _ (Or.inl ⟨by omega, rfl, rfl⟩))
    · skip
      have hn_18 : (pm % 5) = 4 := nf_ne_f (by omega) (by omega) h_18
      refine q_aload_n F 0 dX11_town_21 rfl ?_
      refine q_get F (ci := 11) (j := 1) (v := .int (f 1)) (List.mem_append_left _ (List.mem_of_getElem? (i := 0) rfl)) rfl hi11 (by decide) hf50_11 rfl rfl dX11_town_22 ?_
      refine q_toi (nI pm) (h1) ?_
      refine q_bipush F dX11_town_25 (v := nI 14) (by decide) ?_
      refine q_icmp_ge F (tgt := 33) dX11_town_27 (by decide) (fun h_27 => ?_) (fun h_27 => ?_)
      · skip
        have hn_27 : pm ≥ 14 := nf_ge_t (by omega) (by omega) h_27
        refine q_aload_n F 0 dX11_town_33 rfl ?_
        refine q_aload_n F 0 dX11_town_34 rfl ?_
        refine q_get F (ci := 11) (j := 1) (v := .int (f 1)) (List.mem_append_left _ (List.mem_of_getElem? (i := 0) rfl)) rfl hi11 (by decide) hf50_11 rfl rfl dX11_town_35 ?_
        refine q_toi (nI pm) (h1) ?_
        refine q_iconst F dX11_town_38 (v := nI 5) (by decide) ?_
        refine q_idiv F dX11_town_39 (nI_ne0 (by omega) (by omega)) ?_
        refine q_toi (nI (pm / 5)) (pk_div (by omega) (by omega) (by omega)) ?_
        refine q_iconst F dX11_town_40 (v := nI 1) (by decide) ?_
        refine q_iadd F dX11_town_41 ?_
        refine q_toi (nI (pm / 5 + 1)) (nI_add _ _) ?_
        refine q_put F (j := 2) 0 rfl rfl hi11 tyX11 tyX11_ok nmX11 (by decide) hf67_11 rfl rfl rfl rfl (Nat.le_of_ble_eq_true rfl) dX11_town_42 (ws' := mC E a (upd f 2 (nI (pm / 5 + 1))) hh A ++ tl) rfl ?_
        refine q_iconst F dX11_town_45 (v := nI 0) (by decide) ?_
        refine q_istore_n F (lv' := [(1, .int (nI 0)), (0, .ref (a 32))]) dX11_town_46 (by decide) rfl ?_
        have lb47 : ∀ (fu : Nat) (i : Nat) (hi : i ≤ pm / 5 + 1), pm / 5 + 1 - i < fu → gW p_ l e_ (rmL 3 0 0) s_ m_ args_ below_ meth_ c_ E A_ 3 (MQ below_ (gQ E A_ P_) args_ s_ 0 0 A_) 47 [(0, .ref (a 32)), (1, .int (nI i))] [] (mC E a (upd f 2 (nI (pm / 5 + 1))) hh (va_up A 7 (twR (A 0) (A 7) i)) ++ tl) 0 0 := by
          intro fu_47
          induction fu_47 with
          | zero => intro i hi hfu; exact absurd hfu (Nat.not_lt_zero _)
          | succ fu_47 ih_47 =>
            intro i hi hfu_47
            refine q_iload_n F 1 dX11_town_47 rfl ?_
            refine q_aload_n F 0 dX11_town_48 rfl ?_
            refine q_get F (ci := 11) (j := 2) (v := .int (nI (pm / 5 + 1))) (List.mem_append_left _ (List.mem_of_getElem? (i := 0) rfl)) rfl hi11 (by decide) hf67_11 rfl rfl dX11_town_49 ?_
            refine q_icmp_ge F (tgt := 168) dX11_town_52 (by decide) (fun h_52 => ?_) (fun h_52 => ?_)
            · skip
              have hn_52 : i ≥ (pm / 5 + 1) := nf_ge_t (by omega) (by omega) h_52
              refine q_aload_n F 0 dX11_town_168 rfl ?_
              refine q_iconst F dX11_town_169 (v := nI 0) (by decide) ?_
              refine q_put F (j := 3) 0 rfl rfl hi11 tyX11 tyX11_ok nmX11 (by decide) hf70_11 rfl rfl rfl rfl (Nat.le_of_ble_eq_true rfl) dX11_town_170 (ws' := mC E a (upd (upd f 2 (nI (pm / 5 + 1))) 3 (nI 0)) hh (va_up A 7 (twR (A 0) (A 7) i)) ++ tl) rfl ?_
              refine q_aload_n F 0 dX11_town_173 rfl ?_
              refine q_iconst F dX11_town_174 (v := nI 0) (by decide) ?_
              refine q_put F (j := 4) 0 rfl rfl hi11 tyX11 tyX11_ok nmX11 (by decide) hf73_11 rfl rfl rfl rfl (Nat.le_of_ble_eq_true rfl) dX11_town_175 (ws' := mC E a (upd (upd (upd f 2 (nI (pm / 5 + 1))) 3 (nI 0)) 4 (nI 0)) hh (va_up A 7 (twR (A 0) (A 7) i)) ++ tl) rfl ?_
              refine q_aload_n F 0 dX11_town_178 rfl ?_
              refine q_iconst F dX11_town_179 (v := nI 0) (by decide) ?_
              refine q_put F (j := 5) 0 rfl rfl hi11 tyX11 tyX11_ok nmX11 (by decide) hf76_11 rfl rfl rfl rfl (Nat.le_of_ble_eq_true rfl) dX11_town_180 (ws' := mC E a (upd (upd (upd (upd f 2 (nI (pm / 5 + 1))) 3 (nI 0)) 4 (nI 0)) 5 (nI 0)) hh (va_up A 7 (twR (A 0) (A 7) i)) ++ tl) rfl ?_
              refine q_aload_n F 0 dX11_town_183 rfl ?_
              refine q_iconst F dX11_town_184 (v := nI 0) (by decide) ?_
              refine q_put F (j := 20) 0 rfl rfl hi11 tyX11 tyX11_ok nmX11 (by decide) hf79_11 rfl rfl rfl rfl (Nat.le_of_ble_eq_true rfl) dX11_town_185 (ws' := mC E a (upd (upd (upd (upd (upd f 2 (nI (pm / 5 + 1))) 3 (nI 0)) 4 (nI 0)) 5 (nI 0)) 20 (nI 0)) hh (va_up A 7 (twR (A 0) (A 7) i)) ++ tl) rfl ?_
              refine q_aload_n F 0 dX11_town_188 rfl ?_
              refine q_dup F dX11_town_189 rfl ?_
              refine q_get F (ci := 11) (j := 6) (v := .int (f 6)) (List.mem_append_left _ (List.mem_of_getElem? (i := 0) rfl)) rfl hi11 (by decide) hf82_11 rfl rfl dX11_town_190 ?_
              refine q_iconst F dX11_town_193 (v := nI 1) (by decide) ?_
              refine q_iadd F dX11_town_194 ?_
              refine q_put F (j := 6) 0 rfl rfl hi11 tyX11 tyX11_ok nmX11 (by decide) hf82_11 rfl rfl rfl rfl (Nat.le_of_ble_eq_true rfl) dX11_town_195 (ws' := mC E a (upd (upd (upd (upd (upd (upd f 2 (nI (pm / 5 + 1))) 3 (nI 0)) 4 (nI 0)) 5 (nI 0)) 6 ((f 6) + (nI 1))) 20 (nI 0)) hh (va_up A 7 (twR (A 0) (A 7) i)) ++ tl) rfl ?_
              refine q_aload_n F 0 dX11_town_198 rfl ?_
              refine q_iconst F dX11_town_199 (v := nI 0) (by decide) ?_
              refine q_put F (j := 1) 0 rfl rfl hi11 tyX11 tyX11_ok nmX11 (by decide) hf50_11 rfl rfl rfl rfl (Nat.le_of_ble_eq_true rfl) dX11_town_200 (ws' := mC E a (upd (upd (upd (upd (upd (upd (upd f 1 (nI 0)) 2 (nI (pm / 5 + 1))) 3 (nI 0)) 4 (nI 0)) 5 (nI 0)) 6 ((f 6) + (nI 1))) 20 (nI 0)) hh (va_up A 7 (twR (A 0) (A 7) i)) ++ tl) rfl ?_
              refine q_aload_n F 0 dX11_town_203 rfl ?_
              refine q_get F (ci := 11) (j := 2) (v := .int (nI (pm / 5 + 1))) (List.mem_append_left _ (List.mem_of_getElem? (i := 0) rfl)) rfl hi11 (by decide) hf67_11 rfl rfl dX11_town_204 ?_
              obtain rfl : i = pm / 5 + 1 := by omega
              exact q_iret F hr_ dX11_town_207 (hp_ _ _ (Or.inr ⟨by omega, rfl, rfl⟩))
            · skip
              have hn_52 : i < (pm / 5 + 1) := nf_ge_f (by omega) (by omega) h_52
              refine q_aload_n F 0 dX11_town_55 rfl ?_
              refine q_get F (ci := 11) (j := 7) (v := .ref (a 7)) (List.mem_append_left _ (List.mem_of_getElem? (i := 0) rfl)) rfl hi11 (by decide) hf13_11 rfl rfl dX11_town_56 ?_
              refine q_bipush F dX11_town_59 (v := nI 8) (by decide) ?_
              refine q_iload_n F 1 dX11_town_61 rfl ?_
              refine q_imul F dX11_town_62 ?_
              refine q_toi (nI (8 * i)) (pk_mul _ _) ?_
              refine q_aload_n F 0 dX11_town_63 rfl ?_
              refine q_get F (ci := 11) (j := 0) (v := .ref (a 0)) (List.mem_append_left _ (List.mem_of_getElem? (i := 0) rfl)) rfl hi11 (by decide) hf7_11 rfl rfl dX11_town_64 ?_
              refine q_iconst F dX11_town_67 (v := nI 5) (by decide) ?_
              refine q_iload_n F 1 dX11_town_68 rfl ?_
              refine q_imul F dX11_town_69 ?_
              refine q_toi (nI (5 * i)) (pk_mul _ _) ?_
              refine q_iald F (f := A 0) (List.mem_append_left _ (List.mem_of_getElem? (i := 1) rfl)) (5 * i) rfl (by omega) (by decide) dX11_town_70 ?_
              refine q_callS F (As := [.int (A 0 (5 * i))]) (rest := [.int (nI (8 * i)), .ref (a 7)]) (c_X11_kindBy l E (mC E a (upd f 2 (nI (pm / 5 + 1))) hh (va_up A 7 (twR (A 0) (A 7) i)) ++ tl) (A 0 (5 * i))) (List.Perm.refl _) gX11_town_X11_kindBy rfl rfl rfl hd_X11_kindBy ⟨by decide, by decide⟩ rfl (Nat.le_of_ble_eq_true rfl) dX11_town_71 ⟨Nat.le_of_ble_eq_true rfl, Nat.le_of_ble_eq_true rfl⟩ (fun v_ w_ hvw => ?_)
              rw [hvw.1, hvw.2]
              clear hvw
              refine q_at (pc' := 74) (st' := [.int (kbF (A 0 (5 * i))), .int (nI (8 * i)), .ref (a 7)]) (ws' := mC E a (upd f 2 (nI (pm / 5 + 1))) hh (va_up A 7 (twR (A 0) (A 7) i)) ++ tl) (k' := 0) (n' := 0) rfl rfl rfl rfl rfl ?_
              refine q_iast F 2 rfl (8 * i) rfl (by omega) (by decide) dX11_town_74 (ws' := mC E a (upd f 2 (nI (pm / 5 + 1))) hh (va_up A 7 (upd (twR (A 0) (A 7) i) (8 * i) (kbF (A 0 (5 * i))))) ++ tl) rfl ?_
              refine q_iconst F dX11_town_75 (v := nI 1) (by decide) ?_
              refine q_istore_n F (lv' := [(2, .int (nI 1)), (0, .ref (a 32)), (1, .int (nI i))]) dX11_town_76 (by decide) rfl ?_
              have lb77 : ∀ (fu : Nat) (j : Nat) (hj : j ≤ 3), 3 - j < fu → gW p_ l e_ (rmL 3 0 0) s_ m_ args_ below_ meth_ c_ E A_ 3 (MQ below_ (gQ E A_ P_) args_ s_ 0 0 A_) 77 [(0, .ref (a 32)), (1, .int (nI i)), (2, .int (nI (j + 1)))] [] (mC E a (upd f 2 (nI (pm / 5 + 1))) hh (va_up A 7 (twJ (A 0) (twR (A 0) (A 7) i) i j)) ++ tl) 0 0 := by
                intro fu_77
                induction fu_77 with
                | zero => intro j hj hfu; exact absurd hfu (Nat.not_lt_zero _)
                | succ fu_77 ih_77 =>
                  intro j hj hfu_77
                  refine q_iload_n F 2 dX11_town_77 rfl ?_
                  refine q_iconst F dX11_town_78 (v := nI 4) (by decide) ?_
                  refine q_icmp_ge F (tgt := 112) dX11_town_79 (by decide) (fun h_79 => ?_) (fun h_79 => ?_)
                  · skip
                    have hn_79 : (j + 1) ≥ 4 := nf_ge_t (by omega) (by omega) h_79
                    obtain rfl : j = 3 := by omega
                    refine q_aload_n F 0 dX11_town_112 rfl ?_
                    refine q_get F (ci := 11) (j := 7) (v := .ref (a 7)) (List.mem_append_left _ (List.mem_of_getElem? (i := 0) rfl)) rfl hi11 (by decide) hf13_11 rfl rfl dX11_town_113 ?_
                    refine q_bipush F dX11_town_116 (v := nI 8) (by decide) ?_
                    refine q_iload_n F 1 dX11_town_118 rfl ?_
                    refine q_imul F dX11_town_119 ?_
                    refine q_toi (nI (8 * i)) (pk_mul _ _) ?_
                    refine q_iconst F dX11_town_120 (v := nI 4) (by decide) ?_
                    refine q_iadd F dX11_town_121 ?_
                    refine q_toi (nI (8 * i + 4)) (nI_add _ _) ?_
                    refine q_iconst F dX11_town_122 (v := (-1)) (by decide) ?_
                    refine q_iast F 2 rfl (8 * i + 4) rfl (by omega) (by decide) dX11_town_123 (ws' := mC E a (upd f 2 (nI (pm / 5 + 1))) hh (va_up A 7 (upd (twJ (A 0) (twR (A 0) (A 7) i) i 3) (8 * i + 4) (-1))) ++ tl) rfl ?_
                    refine q_aload_n F 0 dX11_town_124 rfl ?_
                    refine q_get F (ci := 11) (j := 7) (v := .ref (a 7)) (List.mem_append_left _ (List.mem_of_getElem? (i := 0) rfl)) rfl hi11 (by decide) hf13_11 rfl rfl dX11_town_125 ?_
                    refine q_bipush F dX11_town_128 (v := nI 8) (by decide) ?_
                    refine q_iload_n F 1 dX11_town_130 rfl ?_
                    refine q_imul F dX11_town_131 ?_
                    refine q_toi (nI (8 * i)) (pk_mul _ _) ?_
                    refine q_iconst F dX11_town_132 (v := nI 5) (by decide) ?_
                    refine q_iadd F dX11_town_133 ?_
                    refine q_toi (nI (8 * i + 5)) (nI_add _ _) ?_
                    refine q_iconst F dX11_town_134 (v := (-1)) (by decide) ?_
                    refine q_iast F 2 rfl (8 * i + 5) rfl (by omega) (by decide) dX11_town_135 (ws' := mC E a (upd f 2 (nI (pm / 5 + 1))) hh (va_up A 7 (upd (upd (twJ (A 0) (twR (A 0) (A 7) i) i 3) (8 * i + 4) (-1)) (8 * i + 5) (-1))) ++ tl) rfl ?_
                    refine q_aload_n F 0 dX11_town_136 rfl ?_
                    refine q_get F (ci := 11) (j := 7) (v := .ref (a 7)) (List.mem_append_left _ (List.mem_of_getElem? (i := 0) rfl)) rfl hi11 (by decide) hf13_11 rfl rfl dX11_town_137 ?_
                    refine q_bipush F dX11_town_140 (v := nI 8) (by decide) ?_
                    refine q_iload_n F 1 dX11_town_142 rfl ?_
                    refine q_imul F dX11_town_143 ?_
                    refine q_toi (nI (8 * i)) (pk_mul _ _) ?_
                    refine q_bipush F dX11_town_144 (v := nI 6) (by decide) ?_
                    refine q_iadd F dX11_town_146 ?_
                    refine q_toi (nI (8 * i + 6)) (nI_add _ _) ?_
                    refine q_iconst F dX11_town_147 (v := nI 0) (by decide) ?_
                    refine q_iast F 2 rfl (8 * i + 6) rfl (by omega) (by decide) dX11_town_148 (ws' := mC E a (upd f 2 (nI (pm / 5 + 1))) hh (va_up A 7 (upd (upd (upd (twJ (A 0) (twR (A 0) (A 7) i) i 3) (8 * i + 4) (-1)) (8 * i + 5) (-1)) (8 * i + 6) (nI 0))) ++ tl) rfl ?_
                    refine q_aload_n F 0 dX11_town_149 rfl ?_
                    refine q_get F (ci := 11) (j := 7) (v := .ref (a 7)) (List.mem_append_left _ (List.mem_of_getElem? (i := 0) rfl)) rfl hi11 (by decide) hf13_11 rfl rfl dX11_town_150 ?_
                    refine q_bipush F dX11_town_153 (v := nI 8) (by decide) ?_
                    refine q_iload_n F 1 dX11_town_155 rfl ?_
                    refine q_imul F dX11_town_156 ?_
                    refine q_toi (nI (8 * i)) (pk_mul _ _) ?_
                    refine q_bipush F dX11_town_157 (v := nI 7) (by decide) ?_
                    refine q_iadd F dX11_town_159 ?_
                    refine q_toi (nI (8 * i + 7)) (nI_add _ _) ?_
                    refine q_iconst F dX11_town_160 (v := nI 0) (by decide) ?_
                    refine q_iast F 2 rfl (8 * i + 7) rfl (by omega) (by decide) dX11_town_161 (ws' := mC E a (upd f 2 (nI (pm / 5 + 1))) hh (va_up A 7 (upd (upd (upd (upd (twJ (A 0) (twR (A 0) (A 7) i) i 3) (8 * i + 4) (-1)) (8 * i + 5) (-1)) (8 * i + 6) (nI 0)) (8 * i + 7) (nI 0))) ++ tl) rfl ?_
                    refine q_iinc F 1 (v := nI (i + 1)) (lv' := [(1, .int (nI (i + 1))), (0, .ref (a 32)), (2, .int (nI (3 + 1)))]) dX11_town_162 rfl (nI_1 _) (by decide) rfl ?_
                    refine q_goto F (tgt := 47) dX11_town_165 (by decide) ?_
                    refine q_lv [1, 0] (lv' := [(0, .ref (a 32)), (1, .int (nI (i + 1)))]) rfl ?_
                    refine q_to (lv' := [(0, .ref (a 32)), (1, .int (nI (i + 1)))]) (st' := []) (ws' := mC E a (upd f 2 (nI (pm / 5 + 1))) hh (va_up A 7 (twR (A 0) (A 7) (i + 1))) ++ tl) rfl rfl (by rfl) ?_
                    exact ih_47 (i + 1) (by omega) (by omega)
                  · skip
                    have hn_79 : (j + 1) < 4 := nf_ge_f (by omega) (by omega) h_79
                    refine q_aload_n F 0 dX11_town_82 rfl ?_
                    refine q_get F (ci := 11) (j := 7) (v := .ref (a 7)) (List.mem_append_left _ (List.mem_of_getElem? (i := 0) rfl)) rfl hi11 (by decide) hf13_11 rfl rfl dX11_town_83 ?_
                    refine q_bipush F dX11_town_86 (v := nI 8) (by decide) ?_
                    refine q_iload_n F 1 dX11_town_88 rfl ?_
                    refine q_imul F dX11_town_89 ?_
                    refine q_toi (nI (8 * i)) (pk_mul _ _) ?_
                    refine q_iload_n F 2 dX11_town_90 rfl ?_
                    refine q_iadd F dX11_town_91 ?_
                    refine q_toi (nI (8 * i + (j + 1))) (nI_add _ _) ?_
                    refine q_aload_n F 0 dX11_town_92 rfl ?_
                    refine q_get F (ci := 11) (j := 0) (v := .ref (a 0)) (List.mem_append_left _ (List.mem_of_getElem? (i := 0) rfl)) rfl hi11 (by decide) hf7_11 rfl rfl dX11_town_93 ?_
                    refine q_iconst F dX11_town_96 (v := nI 5) (by decide) ?_
                    refine q_iload_n F 1 dX11_town_97 rfl ?_
                    refine q_imul F dX11_town_98 ?_
                    refine q_toi (nI (5 * i)) (pk_mul _ _) ?_
                    refine q_iload_n F 2 dX11_town_99 rfl ?_
                    refine q_iadd F dX11_town_100 ?_
                    refine q_toi (nI (5 * i + (j + 1))) (nI_add _ _) ?_
                    refine q_iald F (f := A 0) (List.mem_append_left _ (List.mem_of_getElem? (i := 1) rfl)) (5 * i + (j + 1)) rfl (by omega) (by decide) dX11_town_101 ?_
                    refine q_bipush F dX11_town_102 (v := nI 48) (by decide) ?_
                    refine q_isub F dX11_town_104 ?_
                    refine q_iast F 2 rfl (8 * i + (j + 1)) rfl (by omega) (by decide) dX11_town_105 (ws' := mC E a (upd f 2 (nI (pm / 5 + 1))) hh (va_up A 7 (upd (twJ (A 0) (twR (A 0) (A 7) i) i j) (8 * i + (j + 1)) ((A 0 (5 * i + (j + 1))) - (nI 48)))) ++ tl) rfl ?_
                    refine q_iinc F 2 (v := nI (j + 1 + 1)) (lv' := [(2, .int (nI (j + 1 + 1))), (0, .ref (a 32)), (1, .int (nI i))]) dX11_town_106 rfl (nI_1 _) (by decide) rfl ?_
                    refine q_goto F (tgt := 77) dX11_town_109 (by decide) ?_
                    refine q_lv [1, 2, 0] (lv' := [(0, .ref (a 32)), (1, .int (nI i)), (2, .int (nI (j + 1 + 1)))]) rfl ?_
                    refine q_to (lv' := [(0, .ref (a 32)), (1, .int (nI i)), (2, .int (nI ((j + 1) + 1)))]) (st' := []) (ws' := mC E a (upd f 2 (nI (pm / 5 + 1))) hh (va_up A 7 (twJ (A 0) (twR (A 0) (A 7) i) i (j + 1))) ++ tl) (cE (vE (rfl)) (cE (vE (rfl)) (cE (vE (congrArg Value.int (by rfl))) rfl))) rfl (by rfl) ?_
                    exact ih_77 (j + 1) (by omega) (by omega)
              refine q_lv [1, 2, 0] (lv' := [(0, .ref (a 32)), (1, .int (nI i)), (2, .int (nI 1))]) rfl ?_
              refine q_to (lv' := [(0, .ref (a 32)), (1, .int (nI i)), (2, .int (nI (0 + 1)))]) (st' := []) (ws' := mC E a (upd f 2 (nI (pm / 5 + 1))) hh (va_up A 7 (twJ (A 0) (twR (A 0) (A 7) i) i 0)) ++ tl) (cE (vE (rfl)) (cE (vE (rfl)) (cE (vE (congrArg Value.int (by rfl))) rfl))) rfl (by rfl) ?_
              exact lb77 (3 - 0 + 1) 0 (by omega) (Nat.lt_succ_self _)
        refine q_lv [1, 0] (lv' := [(0, .ref (a 32)), (1, .int (nI 0))]) rfl ?_
        refine q_to (lv' := [(0, .ref (a 32)), (1, .int (nI 0))]) (st' := []) (ws' := mC E a (upd f 2 (nI (pm / 5 + 1))) hh (va_up A 7 (twR (A 0) (A 7) 0)) ++ tl) rfl rfl (by rfl) ?_
        exact lb47 (pm / 5 + 1 - 0 + 1) 0 (by omega) (Nat.lt_succ_self _)
      · skip
        have hn_27 : pm < 14 := nf_ge_f (by omega) (by omega) h_27
        refine q_bipush F dX11_town_30 (v := (-103)) (by decide) ?_
        exact q_iret F hr_ dX11_town_32 (hp_ _ _ (Or.inl ⟨by omega, rfl, rfl⟩))
