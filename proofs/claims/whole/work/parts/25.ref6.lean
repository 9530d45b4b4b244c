/-- the j-th member of a set among the first n -/
def memN (b : Nat → Bool) : Nat → Nat → Nat
  | 0, _ => 0
  | i + 1, j => if b i = true ∧ cnt b i = j then i else memN b i j
theorem memN_lt {b : Nat → Bool} : ∀ {n j : Nat}, j < cnt b n → memN b n j < n ∧ b (memN b n j) = true
  | 0, j, h => absurd h (Nat.not_lt_zero j)
  | i + 1, j, h => by
    unfold memN
    by_cases q : b i = true ∧ cnt b i = j
    · rw [if_pos q]; exact ⟨Nat.lt_succ_self i, q.1⟩
    · rw [if_neg q]
      have e : j < cnt b i := by
        rw [cnt] at h
        cases e : b i with
        | false => rw [e] at h; simpa using h
        | true =>
          rw [e] at h
          have h2 : j < cnt b i + 1 := by simpa using h
          rcases Nat.lt_or_ge j (cnt b i) with z | z
          · exact z
          · exact absurd ⟨e, by omega⟩ q
      exact ⟨Nat.lt_succ_of_lt (memN_lt e).1, (memN_lt e).2⟩
theorem whA_at {b : Nat → Bool} {w0 : Nat → Int32} : ∀ {n j : Nat}, j < cnt b n → whA b w0 n j = nI (memN b n j)
  | 0, j, h => absurd h (Nat.not_lt_zero j)
  | i + 1, j, h => by
    unfold whA memN
    rw [cnt] at h
    cases e : b i with
    | false =>
      rw [e] at h
      have h2 : j < cnt b i := by simpa using h
      simp [whA_at h2]
    | true =>
      rw [e] at h
      have h2 : j < cnt b i + 1 := by simpa using h
      by_cases q : cnt b i = j
      · subst q; simp [upd]
      · have h3 : j < cnt b i := by omega
        simp [upd, q, Ne.symm q, whA_at h3]
theorem odA_at {w : Nat → Int32} {K c : Nat} {O0 : Nat → Int32} : ∀ {m k : Nat}, m ≤ K → K - m ≤ k → k < K → odA w K c O0 m k = w (c / K ^ (K - k - 1) % K)
  | 0, k, h1, h2, h3 => by omega
  | m + 1, k, h1, h2, h3 => by
    unfold odA
    by_cases q : k = K - m - 1
    · rw [q, pk_us, show K - (K - m - 1) - 1 = m by omega]
    · rw [pk_un q]
      exact odA_at (by omega) (by omega) h3
/-- the order of a code -/
def odC (b : Nat → Bool) (n K c : Nat) : Nat → Nat := fun k => memN b n (c / K ^ (K - k - 1) % K)
theorem odC_at {b : Nat → Bool} {n : Nat} {w0 O0 : Nat → Int32} {c k : Nat} (h : k < cnt b n) : odA (whA b w0 n) (cnt b n) c O0 (cnt b n) k = nI (odC b n (cnt b n) c k) ∧ odC b n (cnt b n) c k < n ∧ b (odC b n (cnt b n) c k) = true := by
  have hd : c / cnt b n ^ (cnt b n - k - 1) % cnt b n < cnt b n := Nat.mod_lt _ (by omega)
  refine ⟨?_, memN_lt hd⟩
  rw [odA_at (Nat.le_refl _) (by omega) h, whA_at hd]
  rfl
/-- place, minute, kept until, late -/
abbrev gZs : Type := Int32 × Int32 × Int32 × Int32
def rnS (T : gTown) (h : Nat) (z : gZs) : gZs := (tP T h, brg (tK T h) (tP T h) z.1 z.2.1 z.2.2.1, kpu (tK T h) (brg (tK T h) (tP T h) z.1 z.2.1 z.2.2.1), z.2.2.2 + ltA (tK T h) (tL T h) (tE T h) (brg (tK T h) (tP T h) z.1 z.2.1 z.2.2.1))
def rnR (T : gTown) (od : Nat → Nat) (z0 : gZs) : Nat → gZs
  | 0 => z0
  | k + 1 => rnS T (od k) (rnR T od z0 k)
/-- best late (-1: none yet), best minute, shortest minute, the best order -/
abbrev gLb : Type := Int32 × Int32 × Int32 × (Nat → Nat)
def lbC (z : gZs) (a : gLb) : Prop := a.1 = (-1) ∨ z.2.2.2 < a.1 ∨ (z.2.2.2 = a.1 ∧ ¬ a.2.1 ≤ z.2.1)
def smF (m s : Int32) : Int32 := if s = (-1) ∨ ¬ s ≤ m then m else s
noncomputable def lbU (z : gZs) (od : Nat → Nat) (a : gLb) : gLb := haveI := Classical.propDecidable (lbC z a); if lbC z a then (z.2.2.2, z.2.1, smF z.2.1 a.2.2.1, od) else (a.1, a.2.1, smF z.2.1 a.2.2.1, a.2.2.2)
theorem lbU_t {z : gZs} {od : Nat → Nat} {a : gLb} (h : lbC z a) : lbU z od a = (z.2.2.2, z.2.1, smF z.2.1 a.2.2.1, od) := by unfold lbU; exact if_pos h
theorem lbU_f {z : gZs} {od : Nat → Nat} {a : gLb} (h : ¬ lbC z a) : lbU z od a = (a.1, a.2.1, smF z.2.1 a.2.2.1, a.2.2.2) := by unfold lbU; exact if_neg h
noncomputable def lbS (T : gTown) (b : Nat → Bool) (K : Nat) (z0 : gZs) (c : Nat) (a : gLb) : gLb := if (isO K c && alB T b (odC b (tN T) K c) K) = true then lbU (rnR T (odC b (tN T) K c) z0 K) (odC b (tN T) K c) a else a
def lbP (E : gEnv) (a : Nat → Nat) (f : Nat → Int32) (hh : Int64) (A : Nat → Nat → Int32) (tl : va_W) (K : Nat) (acc : gLb) (v : Option Value) (w : va_W) : Prop := v = none ∧ ∃ (p9 i9 u9 l9 m9 s9 : Int32) (bo9 : Nat → Nat) (O9 BO9 W9 : Nat → Int32), w = mC E a (upd (upd (upd (upd (upd (upd (upd f 8 p9) 9 i9) 10 u9) 15 (nI K)) 16 l9) 17 m9) 18 s9) hh (va_up (va_up (va_up A 12 O9) 13 BO9) 14 W9) ++ tl ∧ ((l9, m9, s9, bo9) : gLb) = acc ∧ (l9 = (-1) ∨ ∀ k, k < K → BO9 k = nI (bo9 k))
theorem pow_6 : ∀ K, K ≤ 6 → K ^ K ≤ 46656 := by
  intro K h
  rcases (show K = 0 ∨ K = 1 ∨ K = 2 ∨ K = 3 ∨ K = 4 ∨ K = 5 ∨ K = 6 by omega) with rfl | rfl | rfl | rfl | rfl | rfl | rfl <;> decide
set_option maxHeartbeats 4000000 in
set_option maxRecDepth 100000 in
theorem c_X11_isAllowed (l : Launch) (E : gEnv) (a : Nat → Nat) (f : Nat → Int32) (hh : Int64) (A : Nat → Nat → Int32) (tl : va_W) (T : gTown) (hm : f 2 = nI (tN T)) (hn : tN T ≤ 6) (hR : rowsOf (A 7) T) (hO : okT T) (b : Nat → Bool) (K : Nat) (h15 : f 15 = nI K) (hK : K ≤ 6) (od : Nat → Nat) (hod : ∀ k, k < K → A 12 k = nI (od k) ∧ od k < tN T) : Cn l E yX11_isAllowed wsX11_isAllowed (rmL 1 0 0) [.ref (a 32), .int (wb b 6)] (mC E a f hh A ++ tl) 0 0 (fun v w => v = some (.int (bI (alB T b od K))) ∧ w = mC E a f hh A ++ tl) := by
  refine Cn.of (own := RX11) (cc := cX11_isAllowed) (maxL := 5) (ret := (some .boolean)) (lv := [(0, .ref (a 32)), (1, .int (wb b 6))]) (by decide) rfl rfl (Nat.le_of_ble_eq_true rfl) rfl ?_
  intro p_ e_ s_ m_ args_ below_ meth_ c_ A_ P_ hp_ F hr_ hnm_
  have hf141_11 : Cond.fieldLink RX11 141 "KeyOnStreetModel" (TX11 15).2.1 (TX11 15).2.2.1 ∈ wsX11_isAllowed := by decide +kernel
  have hi11 : ∀ w ∈ u_ws RX11 TX11 32, w ∈ wsX11_isAllowed := by decide +kernel
  have hf19_11 : Cond.fieldLink RX11 19 "KeyOnStreetModel" (TX11 12).2.1 (TX11 12).2.2.1 ∈ wsX11_isAllowed := by decide +kernel
  have hd_X11_mayOpen : yX11_mayOpen.cls = RX11 ∧ yX11_mayOpen.cls ≠ "java/lang/invoke/MethodHandle" ∧ yX11_mayOpen.cls ≠ "java/lang/invoke/VarHandle" ∧ (parseMethodDescriptor yX11_mayOpen.desc).map (fun d => d.parameters.length) = some 1 := by decide +kernel
  refine q_iload_n F 1 dX11_isAllowed_0 rfl ?_
  refine q_istore_n F (lv' := [(2, .int (wb b 6)), (0, .ref (a 32)), (1, .int (wb b 6))]) dX11_isAllowed_1 (by decide) rfl ?_
  refine q_iconst F dX11_isAllowed_2 (v := nI 1) (by decide) ?_
  refine q_istore_n F (lv' := [(3, .int (nI 1)), (2, .int (wb b 6)), (0, .ref (a 32)), (1, .int (wb b 6))]) dX11_isAllowed_3 (by decide) rfl ?_
  refine q_iconst F dX11_isAllowed_4 (v := nI 0) (by decide) ?_
  refine q_istore F (lv' := [(4, .int (nI 0)), (3, .int (nI 1)), (2, .int (wb b 6)), (0, .ref (a 32)), (1, .int (wb b 6))]) dX11_isAllowed_5 (by decide) rfl ?_
  have lb7 : ∀ (fu : Nat) (k : Nat) (hk : k ≤ K), K - k < fu → gW p_ l e_ (rmL 1 0 0) s_ m_ args_ below_ meth_ c_ E A_ 5 (MQ below_ (gQ E A_ P_) args_ s_ 0 0 A_) 7 [(0, .ref (a 32)), (2, .int (wb (lfB b od k) 6)), (3, .int (bI (alB T b od k))), (4, .int (nI k))] [] (mC E a f hh A ++ tl) 0 0 := by
    intro fu_7
    induction fu_7 with
    | zero => intro k hk hfu; exact absurd hfu (Nat.not_lt_zero _)
    | succ fu_7 ih_7 =>
      intro k hk hfu_7
      refine q_iload F 3 dX11_isAllowed_7 rfl ?_
      refine q_aload_n F 0 dX11_isAllowed_9 rfl ?_
      refine q_get F (ci := 11) (j := 15) (v := .int (f 15)) (List.mem_append_left _ (List.mem_of_getElem? (i := 0) rfl)) rfl hi11 (by decide) hf141_11 rfl rfl dX11_isAllowed_10 ?_
      refine q_toi (nI K) (h15) ?_
      refine q_icmp_ge F (tgt := 65) dX11_isAllowed_13 (by decide) (fun h_13 => ?_) (fun h_13 => ?_)
      · skip
        have hn_13 : k ≥ K := nf_ge_t (by omega) (by omega) h_13
        refine q_iload_n F 2 dX11_isAllowed_65 rfl ?_
        refine q_zret F hr_ (bI_nar _) dX11_isAllowed_66 (hp_ _ _ ⟨congrArg (fun z => some (Value.int z)) ?_, ?_⟩)
        · (have e6 : k = K := by omega); rw [e6]
        · rfl
      · skip
        have hn_13 : k < K := nf_ge_f (by omega) (by omega) h_13
        have hok := (hod k hn_13).2
        refine q_iload_n F 2 dX11_isAllowed_16 rfl ?_
        have jn44 : gW p_ l e_ (rmL 1 0 0) s_ m_ args_ below_ meth_ c_ E A_ 5 (MQ below_ (gQ E A_ P_) args_ s_ 0 0 A_) 44 [(0, .ref (a 32)), (2, .int (wb (lfB b od k) 6)), (3, .int (bI (alB T b od k))), (4, .int (nI k))] [.int (bI (alB T b od (k + 1)))] (mC E a f hh A ++ tl) 0 0 := by
          refine q_istore_n F (lv' := [(3, .int (bI (alB T b od (k + 1)))), (0, .ref (a 32)), (2, .int (wb (lfB b od k) 6)), (4, .int (nI k))]) dX11_isAllowed_44 (by decide) rfl ?_
          refine q_iload_n F 2 dX11_isAllowed_45 rfl ?_
          refine q_iconst F dX11_isAllowed_46 (v := nI 1) (by decide) ?_
          refine q_aload_n F 1 dX11_isAllowed_47 rfl ?_
          refine q_get F (ci := 11) (j := 12) (v := .ref (a 12)) (List.mem_append_left _ (List.mem_of_getElem? (i := 0) rfl)) rfl hi11 (by decide) hf19_11 rfl rfl dX11_isAllowed_48 ?_
          refine q_iload F 3 dX11_isAllowed_51 rfl ?_
          refine q_iald F (f := A 12) (List.mem_append_left _ (List.mem_of_getElem? (i := 4) rfl)) k rfl (by omega) (by decide) dX11_isAllowed_53 ?_
          refine q_toi (nI (od k)) ((hod k (by omega)).1) ?_
          refine q_ishl F dX11_isAllowed_54 ?_
          refine q_iconst F dX11_isAllowed_55 (v := (-1)) (by decide) ?_
          refine q_ixor F dX11_isAllowed_56 ?_
          refine q_iand F dX11_isAllowed_57 ?_
          refine q_toi (wb (lfB b od (k + 1)) 6) (wb_clr _ (by omega)) ?_
          refine q_istore_n F (lv' := [(2, .int (wb (lfB b od (k + 1)) 6)), (3, .int (bI (alB T b od (k + 1)))), (0, .ref (a 32)), (4, .int (nI k))]) dX11_isAllowed_58 (by decide) rfl ?_
          refine q_iinc F 3 (v := nI (k + 1)) (lv' := [(4, .int (nI (k + 1))), (2, .int (wb (lfB b od (k + 1)) 6)), (3, .int (bI (alB T b od (k + 1)))), (0, .ref (a 32))]) dX11_isAllowed_59 rfl (nI_1 _) (by decide) rfl ?_
          refine q_goto F (tgt := 7) dX11_isAllowed_62 (by decide) ?_
          refine q_lv [3, 1, 2, 0] (lv' := [(0, .ref (a 32)), (2, .int (wb (lfB b od (k + 1)) 6)), (3, .int (bI (alB T b od (k + 1)))), (4, .int (nI (k + 1)))]) rfl ?_
          refine q_to (lv' := [(0, .ref (a 32)), (2, .int (wb (lfB b od (k + 1)) 6)), (3, .int (bI (alB T b od (k + 1)))), (4, .int (nI (k + 1)))]) (st' := []) (ws' := mC E a f hh A ++ tl) rfl rfl rfl ?_
          exact ih_7 (k + 1) (by omega) (by omega)
        refine q_if_eq F (tgt := 43) dX11_isAllowed_17 (by decide) (fun h_17 => ?_) (fun h_17 => ?_)
        · skip
          have hb_17 := bI_0 h_17
          refine q_iconst F dX11_isAllowed_43 (v := nI 0) (by decide) ?_
          refine q_toi (bI (alB T b od (k + 1))) (by simp [alB, bI, *]) ?_
          exact jn44
        · skip
          have hb_17 := bI_1 h_17
          refine q_aload_n F 0 dX11_isAllowed_20 rfl ?_
          refine q_iload_n F 1 dX11_isAllowed_21 rfl ?_
          refine q_callV F (ci := 11) (As := [.int (wb (lfB b od k) 6)]) (rest := []) (List.mem_append_left _ (List.mem_of_getElem? (i := 0) rfl)) rfl (c_X11_mayOpen l E a f hh A tl T hm hn hR hO (wb (lfB b od k) 6)) (List.Perm.refl _) gX11_isAllowed_X11_mayOpen rfl rfl rfl hd_X11_mayOpen ⟨by decide, by decide⟩ rfl (Nat.le_of_ble_eq_true rfl) dX11_isAllowed_22 ⟨Nat.le_of_ble_eq_true rfl, Nat.le_of_ble_eq_true rfl⟩ (fun v_ w_ hvw => ?_)
          rw [hvw.1, hvw.2]
          clear hvw
          refine q_at (pc' := 25) (st' := [.int (myM T (wb (lfB b od k) 6))]) (ws' := mC E a f hh A ++ tl) (k' := 0) (n' := 0) rfl rfl rfl rfl rfl ?_
          refine q_toi (wb (mayS T (lfB b od k)) 6) (myM_wb hn _) ?_
          refine q_aload_n F 0 dX11_isAllowed_25 rfl ?_
          refine q_get F (ci := 11) (j := 12) (v := .ref (a 12)) (List.mem_append_left _ (List.mem_of_getElem? (i := 0) rfl)) rfl hi11 (by decide) hf19_11 rfl rfl dX11_isAllowed_26 ?_
          refine q_iload F 3 dX11_isAllowed_29 rfl ?_
          refine q_iald F (f := A 12) (List.mem_append_left _ (List.mem_of_getElem? (i := 4) rfl)) k rfl (by omega) (by decide) dX11_isAllowed_31 ?_
          refine q_toi (nI (od k)) ((hod k (by omega)).1) ?_
          refine q_ishr F dX11_isAllowed_32 ?_
          refine q_iconst F dX11_isAllowed_33 (v := nI 1) (by decide) ?_
          refine q_iand F dX11_isAllowed_34 ?_
          refine q_iconst F dX11_isAllowed_35 (v := nI 1) (by decide) ?_
          refine q_icmp_ne F (tgt := 43) dX11_isAllowed_36 (by decide) (fun h_36 => ?_) (fun h_36 => ?_)
          · skip
            have hbit : mayS T (lfB b od k) (od k) = false := by (cases e : mayS T (lfB b od k) (od k) with | false => rfl | true => exact absurd ((wb_bitI _ (by omega)).mpr e) h_36)
            refine q_iconst F dX11_isAllowed_43 (v := nI 0) (by decide) ?_
            refine q_toi (bI (alB T b od (k + 1))) (by simp [alB, bI, *]) ?_
            exact jn44
          · skip
            have hbit : mayS T (lfB b od k) (od k) = true := (wb_bitI _ (by omega)).mp h_36
            refine q_iconst F dX11_isAllowed_39 (v := nI 1) (by decide) ?_
            refine q_goto F (tgt := 44) dX11_isAllowed_40 (by decide) ?_
            refine q_toi (bI (alB T b od (k + 1))) (by simp [alB, bI, *]) ?_
            exact jn44
  refine q_lv [3, 2, 1, 0] (lv' := [(0, .ref (a 32)), (2, .int (wb b 6)), (3, .int (nI 1)), (4, .int (nI 0))]) rfl ?_
  refine q_to (lv' := [(0, .ref (a 32)), (2, .int (wb (lfB b od 0) 6)), (3, .int (bI (alB T b od 0))), (4, .int (nI 0))]) (st' := []) (ws' := mC E a f hh A ++ tl) (cE (vE (rfl)) (cE (vE (congrArg Value.int (by rfl))) (cE (vE (congrArg Value.int (by rfl))) (cE (vE (rfl)) rfl)))) rfl rfl ?_
  exact lb7 (K - 0 + 1) 0 (by omega) (Nat.lt_succ_self _)

set_option maxHeartbeats 16000000 in
set_option maxRecDepth 100000 in
theorem c_X11_layBest (l : Launch) (E : gEnv) (a : Nat → Nat) (f : Nat → Int32) (hh : Int64) (A : Nat → Nat → Int32) (tl : va_W) (T : gTown) (hm : f 2 = nI (tN T)) (hn : tN T ≤ 6) (hR : rowsOf (A 7) T) (hO : okT T) (x y : Int32) (hx : okP x) : Cn l E yX11_layBest wsX11_layBest (rmL 2 0 0) [.ref (a 32), .int x, .int y] (mC E a f hh A ++ tl) 0 0 (lbP E a f hh A tl (cnt (shB T (A 7)) (tN T)) (fN (lbS T (shB T (A 7)) (cnt (shB T (A 7)) (tN T)) (x, f 5, y, nI 0)) ((cnt (shB T (A 7)) (tN T)) ^ (cnt (shB T (A 7)) (tN T))) ((-1), f 5, (-1), fun _ => 0))) := by
  refine Cn.of (own := RX11) (cc := cX11_layBest) (maxL := 7) (ret := none) (lv := [(0, .ref (a 32)), (1, .int x), (2, .int y)]) (by decide) rfl rfl (Nat.le_of_ble_eq_true rfl) rfl ?_
  intro p_ e_ s_ m_ args_ below_ meth_ c_ A_ P_ hp_ F hr_ hnm_
  have hd_X11_shutBits : yX11_shutBits.cls = RX11 ∧ yX11_shutBits.cls ≠ "java/lang/invoke/MethodHandle" ∧ yX11_shutBits.cls ≠ "java/lang/invoke/VarHandle" ∧ (parseMethodDescriptor yX11_shutBits.desc).map (fun d => d.parameters.length) = some 0 := by decide +kernel
  have hd_X11_layWho : yX11_layWho.cls = RX11 ∧ yX11_layWho.cls ≠ "java/lang/invoke/MethodHandle" ∧ yX11_layWho.cls ≠ "java/lang/invoke/VarHandle" ∧ (parseMethodDescriptor yX11_layWho.desc).map (fun d => d.parameters.length) = some 1 := by decide +kernel
  have hf148_11 : Cond.fieldLink RX11 148 "KeyOnStreetModel" (TX11 16).2.1 (TX11 16).2.2.1 ∈ wsX11_layBest := by decide +kernel
  have hi11 : ∀ w ∈ u_ws RX11 TX11 32, w ∈ wsX11_layBest := by decide +kernel
  have hf76_11 : Cond.fieldLink RX11 76 "KeyOnStreetModel" (TX11 5).2.1 (TX11 5).2.2.1 ∈ wsX11_layBest := by decide +kernel
  have hf151_11 : Cond.fieldLink RX11 151 "KeyOnStreetModel" (TX11 17).2.1 (TX11 17).2.2.1 ∈ wsX11_layBest := by decide +kernel
  have hf154_11 : Cond.fieldLink RX11 154 "KeyOnStreetModel" (TX11 18).2.1 (TX11 18).2.2.1 ∈ wsX11_layBest := by decide +kernel
  have hd_X11_codes : yX11_codes.cls = RX11 ∧ yX11_codes.cls ≠ "java/lang/invoke/MethodHandle" ∧ yX11_codes.cls ≠ "java/lang/invoke/VarHandle" ∧ (parseMethodDescriptor yX11_codes.desc).map (fun d => d.parameters.length) = some 0 := by decide +kernel
  have hd_X11_isOrder : yX11_isOrder.cls = RX11 ∧ yX11_isOrder.cls ≠ "java/lang/invoke/MethodHandle" ∧ yX11_isOrder.cls ≠ "java/lang/invoke/VarHandle" ∧ (parseMethodDescriptor yX11_isOrder.desc).map (fun d => d.parameters.length) = some 1 := by decide +kernel
  have hd_X11_isAllowed : yX11_isAllowed.cls = RX11 ∧ yX11_isAllowed.cls ≠ "java/lang/invoke/MethodHandle" ∧ yX11_isAllowed.cls ≠ "java/lang/invoke/VarHandle" ∧ (parseMethodDescriptor yX11_isAllowed.desc).map (fun d => d.parameters.length) = some 1 := by decide +kernel
  have hf102_11 : Cond.fieldLink RX11 102 "KeyOnStreetModel" (TX11 8).2.1 (TX11 8).2.2.1 ∈ wsX11_layBest := by decide +kernel
  have hf105_11 : Cond.fieldLink RX11 105 "KeyOnStreetModel" (TX11 9).2.1 (TX11 9).2.2.1 ∈ wsX11_layBest := by decide +kernel
  have hf108_11 : Cond.fieldLink RX11 108 "KeyOnStreetModel" (TX11 10).2.1 (TX11 10).2.2.1 ∈ wsX11_layBest := by decide +kernel
  have hf141_11 : Cond.fieldLink RX11 141 "KeyOnStreetModel" (TX11 15).2.1 (TX11 15).2.2.1 ∈ wsX11_layBest := by decide +kernel
  have hf19_11 : Cond.fieldLink RX11 19 "KeyOnStreetModel" (TX11 12).2.1 (TX11 12).2.2.1 ∈ wsX11_layBest := by decide +kernel
  have hf22_11 : Cond.fieldLink RX11 22 "KeyOnStreetModel" (TX11 13).2.1 (TX11 13).2.2.1 ∈ wsX11_layBest := by decide +kernel
  have hd_X11_copy : yX11_copy.cls ≠ "java/lang/invoke/MethodHandle" ∧ yX11_copy.cls ≠ "java/lang/invoke/VarHandle" ∧ (parseMethodDescriptor yX11_copy.desc).map (fun d => d.parameters.length) = some 2 := by decide +kernel
  have hd_X11_opens : yX11_opens.cls = RX11 ∧ yX11_opens.cls ≠ "java/lang/invoke/MethodHandle" ∧ yX11_opens.cls ≠ "java/lang/invoke/VarHandle" ∧ (parseMethodDescriptor yX11_opens.desc).map (fun d => d.parameters.length) = some 1 := by decide +kernel
  have hK6 : cnt (shB T (A 7)) (tN T) ≤ 6 := by have := cnt_le (shB T (A 7)) (tN T); omega
  have hpw := pow_6 (cnt (shB T (A 7)) (tN T)) hK6
  refine q_aload_n F 0 dX11_layBest_0 rfl ?_
  refine q_callV F (ci := 11) (As := []) (rest := []) (List.mem_append_left _ (List.mem_of_getElem? (i := 0) rfl)) rfl (c_X11_shutBits l E a f hh A tl T hm hn ) (List.Perm.refl _) gX11_layBest_X11_shutBits rfl rfl rfl hd_X11_shutBits ⟨by decide, by decide⟩ rfl (Nat.le_of_ble_eq_true rfl) dX11_layBest_1 ⟨Nat.le_of_ble_eq_true rfl, Nat.le_of_ble_eq_true rfl⟩ (fun v_ w_ hvw => ?_)
  rw [hvw.1, hvw.2]
  clear hvw
  refine q_at (pc' := 4) (st' := [.int (wb (shB T (A 7)) 6)]) (ws' := mC E a f hh A ++ tl) (k' := 0) (n' := 0) rfl rfl rfl rfl rfl ?_
  refine q_istore_n F (lv' := [(3, .int (wb (shB T (A 7)) 6)), (0, .ref (a 32)), (1, .int x), (2, .int y)]) dX11_layBest_4 (by decide) rfl ?_
  refine q_aload_n F 1 dX11_layBest_5 rfl ?_
  refine q_iload_n F 0 dX11_layBest_6 rfl ?_
  refine q_callV F (ci := 11) (As := [.int (wb (shB T (A 7)) 6)]) (rest := []) (List.mem_append_left _ (List.mem_of_getElem? (i := 0) rfl)) rfl (c_X11_layWho l E a f hh A tl T hm hn (shB T (A 7))) (List.Perm.refl _) gX11_layBest_X11_layWho rfl rfl rfl hd_X11_layWho ⟨by decide, by decide⟩ rfl (Nat.le_of_ble_eq_true rfl) dX11_layBest_7 ⟨Nat.le_of_ble_eq_true rfl, Nat.le_of_ble_eq_true rfl⟩ (fun v_ w_ hvw => ?_)
  rw [hvw.1, hvw.2]
  clear hvw
  refine q_at (pc' := 10) (st' := []) (ws' := mC E a (upd f 15 (nI (cnt (shB T (A 7)) (tN T)))) hh (va_up A 14 (whA (shB T (A 7)) (A 14) (tN T))) ++ tl) (k' := 0) (n' := 0) rfl rfl rfl rfl rfl ?_
  refine q_aload_n F 1 dX11_layBest_10 rfl ?_
  refine q_iconst F dX11_layBest_11 (v := (-1)) (by decide) ?_
  refine q_put F (j := 16) 0 rfl rfl hi11 tyX11 tyX11_ok nmX11 (by decide) hf148_11 rfl rfl rfl rfl (Nat.le_of_ble_eq_true rfl) dX11_layBest_12 (ws' := mC E a (upd (upd f 15 (nI (cnt (shB T (A 7)) (tN T)))) 16 (-1)) hh (va_up A 14 (whA (shB T (A 7)) (A 14) (tN T))) ++ tl) rfl ?_
  refine q_aload_n F 1 dX11_layBest_15 rfl ?_
  refine q_aload_n F 1 dX11_layBest_16 rfl ?_
  refine q_get F (ci := 11) (j := 5) (v := .int (f 5)) (List.mem_append_left _ (List.mem_of_getElem? (i := 0) rfl)) rfl hi11 (by decide) hf76_11 rfl rfl dX11_layBest_17 ?_
  refine q_put F (j := 17) 0 rfl rfl hi11 tyX11 tyX11_ok nmX11 (by decide) hf151_11 rfl rfl rfl rfl (Nat.le_of_ble_eq_true rfl) dX11_layBest_20 (ws' := mC E a (upd (upd (upd f 15 (nI (cnt (shB T (A 7)) (tN T)))) 16 (-1)) 17 (f 5)) hh (va_up A 14 (whA (shB T (A 7)) (A 14) (tN T))) ++ tl) rfl ?_
  refine q_aload_n F 1 dX11_layBest_23 rfl ?_
  refine q_iconst F dX11_layBest_24 (v := (-1)) (by decide) ?_
  refine q_put F (j := 18) 0 rfl rfl hi11 tyX11 tyX11_ok nmX11 (by decide) hf154_11 rfl rfl rfl rfl (Nat.le_of_ble_eq_true rfl) dX11_layBest_25 (ws' := mC E a (upd (upd (upd (upd f 15 (nI (cnt (shB T (A 7)) (tN T)))) 16 (-1)) 17 (f 5)) 18 (-1)) hh (va_up A 14 (whA (shB T (A 7)) (A 14) (tN T))) ++ tl) rfl ?_
  refine q_iconst F dX11_layBest_28 (v := nI 0) (by decide) ?_
  refine q_istore F (lv' := [(4, .int (nI 0)), (3, .int (wb (shB T (A 7)) 6)), (0, .ref (a 32)), (1, .int x), (2, .int y)]) dX11_layBest_29 (by decide) rfl ?_
  have lb31 : ∀ (fu : Nat) (c : Nat) (p9 : Int32) (i9 : Int32) (u9 : Int32) (l9 : Int32) (m9 : Int32) (s9 : Int32) (bo9 : Nat → Nat) (O9 : Nat → Int32) (BO9 : Nat → Int32) (hc : c ≤ (cnt (shB T (A 7)) (tN T)) ^ (cnt (shB T (A 7)) (tN T))) (hl : ((l9, m9, s9, bo9) : gLb) = fN (lbS T (shB T (A 7)) (cnt (shB T (A 7)) (tN T)) (x, f 5, y, nI 0)) c ((-1), f 5, (-1), fun _ => 0)) (hbo : l9 = (-1) ∨ ∀ k, k < cnt (shB T (A 7)) (tN T) → BO9 k = nI (bo9 k)), (cnt (shB T (A 7)) (tN T)) ^ (cnt (shB T (A 7)) (tN T)) - c < fu → gW p_ l e_ (rmL 2 0 0) s_ m_ args_ below_ meth_ c_ E A_ 7 (MQ below_ (gQ E A_ P_) args_ s_ 0 0 A_) 31 [(0, .ref (a 32)), (1, .int x), (2, .int y), (3, .int (wb (shB T (A 7)) 6)), (4, .int (nI c))] [] (mC E a (upd (upd (upd (upd (upd (upd (upd f 8 p9) 9 i9) 10 u9) 15 (nI (cnt (shB T (A 7)) (tN T)))) 16 l9) 17 m9) 18 s9) hh (va_up (va_up (va_up A 12 O9) 13 BO9) 14 (whA (shB T (A 7)) (A 14) (tN T))) ++ tl) 0 0 := by
    intro fu_31
    induction fu_31 with
    | zero => intro c p9 i9 u9 l9 m9 s9 bo9 O9 BO9 hc hl hbo hfu; exact absurd hfu (Nat.not_lt_zero _)
    | succ fu_31 ih_31 =>
      intro c p9 i9 u9 l9 m9 s9 bo9 O9 BO9 hc hl hbo hfu_31
      refine q_iload F 4 dX11_layBest_31 rfl ?_
      refine q_aload_n F 0 dX11_layBest_33 rfl ?_
      refine q_callV F (ci := 11) (As := []) (rest := [.int (nI c)]) (List.mem_append_left _ (List.mem_of_getElem? (i := 0) rfl)) rfl (c_X11_codes l E a (upd (upd (upd (upd (upd (upd (upd f 8 p9) 9 i9) 10 u9) 15 (nI (cnt (shB T (A 7)) (tN T)))) 16 l9) 17 m9) 18 s9) hh (va_up (va_up (va_up A 12 O9) 13 BO9) 14 (whA (shB T (A 7)) (A 14) (tN T))) tl (cnt (shB T (A 7)) (tN T)) rfl hK6) (List.Perm.refl _) gX11_layBest_X11_codes rfl rfl rfl hd_X11_codes ⟨by decide, by decide⟩ rfl (Nat.le_of_ble_eq_true rfl) dX11_layBest_34 ⟨Nat.le_of_ble_eq_true rfl, Nat.le_of_ble_eq_true rfl⟩ (fun v_ w_ hvw => ?_)
      rw [hvw.1, hvw.2]
      clear hvw
      refine q_at (pc' := 37) (st' := [.int (nI ((cnt (shB T (A 7)) (tN T)) ^ (cnt (shB T (A 7)) (tN T)))), .int (nI c)]) (ws' := mC E a (upd (upd (upd (upd (upd (upd (upd f 8 p9) 9 i9) 10 u9) 15 (nI (cnt (shB T (A 7)) (tN T)))) 16 l9) 17 m9) 18 s9) hh (va_up (va_up (va_up A 12 O9) 13 BO9) 14 (whA (shB T (A 7)) (A 14) (tN T))) ++ tl) (k' := 0) (n' := 0) rfl rfl rfl rfl rfl ?_
      refine q_icmp_ge F (tgt := 214) dX11_layBest_37 (by decide) (fun h_37 => ?_) (fun h_37 => ?_)
      · skip
        have hn_37 : c ≥ ((cnt (shB T (A 7)) (tN T)) ^ (cnt (shB T (A 7)) (tN T))) := nf_ge_t (by omega) (by omega) h_37
        obtain rfl : c = (cnt (shB T (A 7)) (tN T)) ^ (cnt (shB T (A 7)) (tN T)) := by omega
        refine q_vret F hr_ dX11_layBest_214 (hp_ _ _ ⟨rfl, p9, i9, u9, l9, m9, s9, bo9, O9, BO9, _, rfl, hl, hbo⟩)
      · skip
        have hn_37 : c < ((cnt (shB T (A 7)) (tN T)) ^ (cnt (shB T (A 7)) (tN T))) := nf_ge_f (by omega) (by omega) h_37
        refine q_aload_n F 0 dX11_layBest_40 rfl ?_
        refine q_iload F 4 dX11_layBest_41 rfl ?_
        refine q_callV F (ci := 11) (As := [.int (nI c)]) (rest := []) (List.mem_append_left _ (List.mem_of_getElem? (i := 0) rfl)) rfl (c_X11_isOrder l E a (upd (upd (upd (upd (upd (upd (upd f 8 p9) 9 i9) 10 u9) 15 (nI (cnt (shB T (A 7)) (tN T)))) 16 l9) 17 m9) 18 s9) hh (va_up (va_up (va_up A 12 O9) 13 BO9) 14 (whA (shB T (A 7)) (A 14) (tN T))) tl (cnt (shB T (A 7)) (tN T)) rfl hK6 c (by omega)) (List.Perm.refl _) gX11_layBest_X11_isOrder rfl rfl rfl hd_X11_isOrder ⟨by decide, by decide⟩ rfl (Nat.le_of_ble_eq_true rfl) dX11_layBest_43 ⟨Nat.le_of_ble_eq_true rfl, Nat.le_of_ble_eq_true rfl⟩ (fun v_ w_ hvw => ?_)
        rw [hvw.1, hvw.2]
        clear hvw
        refine q_at (pc' := 46) (st' := [.int (bI (isO (cnt (shB T (A 7)) (tN T)) c))]) (ws' := mC E a (upd (upd (upd (upd (upd (upd (upd f 8 p9) 9 i9) 10 u9) 15 (nI (cnt (shB T (A 7)) (tN T)))) 16 l9) 17 m9) 18 s9) hh (va_up (va_up (va_up A 12 (odA (whA (shB T (A 7)) (A 14) (tN T)) (cnt (shB T (A 7)) (tN T)) c O9 (cnt (shB T (A 7)) (tN T)))) 13 BO9) 14 (whA (shB T (A 7)) (A 14) (tN T))) ++ tl) (k' := 0) (n' := 0) rfl rfl rfl rfl rfl ?_
        refine q_if_eq F (tgt := 208) dX11_layBest_46 (by decide) (fun h_46 => ?_) (fun h_46 => ?_)
        · skip
          have hb_46 := bI_0 h_46
          refine q_iinc F 4 (v := nI (c + 1)) (lv' := [(4, .int (nI (c + 1))), (0, .ref (a 32)), (1, .int x), (2, .int y), (3, .int (wb (shB T (A 7)) 6))]) dX11_layBest_208 rfl (nI_1 _) (by decide) rfl ?_
          refine q_goto F (tgt := 31) dX11_layBest_211 (by decide) ?_
          refine q_lv [1, 2, 3, 4, 0] (lv' := [(0, .ref (a 32)), (1, .int x), (2, .int y), (3, .int (wb (shB T (A 7)) 6)), (4, .int (nI (c + 1)))]) rfl ?_
          refine q_to (lv' := [(0, .ref (a 32)), (1, .int x), (2, .int y), (3, .int (wb (shB T (A 7)) 6)), (4, .int (nI (c + 1)))]) (st' := []) (ws' := mC E a (upd (upd (upd (upd (upd (upd (upd f 8 p9) 9 i9) 10 u9) 15 (nI (cnt (shB T (A 7)) (tN T)))) 16 l9) 17 m9) 18 s9) hh (va_up (va_up (va_up A 12 (odA (whA (shB T (A 7)) (A 14) (tN T)) (cnt (shB T (A 7)) (tN T)) c O9 (cnt (shB T (A 7)) (tN T)))) 13 BO9) 14 (whA (shB T (A 7)) (A 14) (tN T))) ++ tl) rfl rfl rfl ?_
          exact ih_31 (c + 1) p9 i9 u9 l9 m9 s9 bo9 (odA (whA (shB T (A 7)) (A 14) (tN T)) (cnt (shB T (A 7)) (tN T)) c O9 (cnt (shB T (A 7)) (tN T))) BO9 (by omega) (by show _ = lbS T (shB T (A 7)) (cnt (shB T (A 7)) (tN T)) (x, f 5, y, nI 0) c (fN (lbS T (shB T (A 7)) (cnt (shB T (A 7)) (tN T)) (x, f 5, y, nI 0)) c ((-1), f 5, (-1), fun _ => 0)); rw [← hl, lbS, if_neg (by simp [*])]) (hbo) (by omega)
        · skip
          have hb_46 := bI_1 h_46
          refine q_aload_n F 0 dX11_layBest_49 rfl ?_
          refine q_iload_n F 3 dX11_layBest_50 rfl ?_
          refine q_callV F (ci := 11) (As := [.int (wb (shB T (A 7)) 6)]) (rest := []) (List.mem_append_left _ (List.mem_of_getElem? (i := 0) rfl)) rfl (c_X11_isAllowed l E a (upd (upd (upd (upd (upd (upd (upd f 8 p9) 9 i9) 10 u9) 15 (nI (cnt (shB T (A 7)) (tN T)))) 16 l9) 17 m9) 18 s9) hh (va_up (va_up (va_up A 12 (odA (whA (shB T (A 7)) (A 14) (tN T)) (cnt (shB T (A 7)) (tN T)) c O9 (cnt (shB T (A 7)) (tN T)))) 13 BO9) 14 (whA (shB T (A 7)) (A 14) (tN T))) tl T hm hn hR hO (shB T (A 7)) (cnt (shB T (A 7)) (tN T)) rfl hK6 (odC (shB T (A 7)) (tN T) (cnt (shB T (A 7)) (tN T)) c) (fun k hk => ⟨(odC_at (w0 := A 14) (O0 := O9) (c := c) hk).1, (odC_at (w0 := A 14) (O0 := O9) (c := c) hk).2.1⟩)) (List.Perm.refl _) gX11_layBest_X11_isAllowed rfl rfl rfl hd_X11_isAllowed ⟨by decide, by decide⟩ rfl (Nat.le_of_ble_eq_true rfl) dX11_layBest_51 ⟨Nat.le_of_ble_eq_true rfl, Nat.le_of_ble_eq_true rfl⟩ (fun v_ w_ hvw => ?_)
          rw [hvw.1, hvw.2]
          clear hvw
          refine q_at (pc' := 54) (st' := [.int (bI (alB T (shB T (A 7)) (odC (shB T (A 7)) (tN T) (cnt (shB T (A 7)) (tN T)) c) (cnt (shB T (A 7)) (tN T))))]) (ws' := mC E a (upd (upd (upd (upd (upd (upd (upd f 8 p9) 9 i9) 10 u9) 15 (nI (cnt (shB T (A 7)) (tN T)))) 16 l9) 17 m9) 18 s9) hh (va_up (va_up (va_up A 12 (odA (whA (shB T (A 7)) (A 14) (tN T)) (cnt (shB T (A 7)) (tN T)) c O9 (cnt (shB T (A 7)) (tN T)))) 13 BO9) 14 (whA (shB T (A 7)) (A 14) (tN T))) ++ tl) (k' := 0) (n' := 0) rfl rfl rfl rfl rfl ?_
          refine q_if_eq F (tgt := 208) dX11_layBest_54 (by decide) (fun h_54 => ?_) (fun h_54 => ?_)
          · skip
            have hb_54 := bI_0 h_54
            refine q_iinc F 4 (v := nI (c + 1)) (lv' := [(4, .int (nI (c + 1))), (0, .ref (a 32)), (1, .int x), (2, .int y), (3, .int (wb (shB T (A 7)) 6))]) dX11_layBest_208 rfl (nI_1 _) (by decide) rfl ?_
            refine q_goto F (tgt := 31) dX11_layBest_211 (by decide) ?_
            refine q_lv [1, 2, 3, 4, 0] (lv' := [(0, .ref (a 32)), (1, .int x), (2, .int y), (3, .int (wb (shB T (A 7)) 6)), (4, .int (nI (c + 1)))]) rfl ?_
            refine q_to (lv' := [(0, .ref (a 32)), (1, .int x), (2, .int y), (3, .int (wb (shB T (A 7)) 6)), (4, .int (nI (c + 1)))]) (st' := []) (ws' := mC E a (upd (upd (upd (upd (upd (upd (upd f 8 p9) 9 i9) 10 u9) 15 (nI (cnt (shB T (A 7)) (tN T)))) 16 l9) 17 m9) 18 s9) hh (va_up (va_up (va_up A 12 (odA (whA (shB T (A 7)) (A 14) (tN T)) (cnt (shB T (A 7)) (tN T)) c O9 (cnt (shB T (A 7)) (tN T)))) 13 BO9) 14 (whA (shB T (A 7)) (A 14) (tN T))) ++ tl) rfl rfl rfl ?_
            exact ih_31 (c + 1) p9 i9 u9 l9 m9 s9 bo9 (odA (whA (shB T (A 7)) (A 14) (tN T)) (cnt (shB T (A 7)) (tN T)) c O9 (cnt (shB T (A 7)) (tN T))) BO9 (by omega) (by show _ = lbS T (shB T (A 7)) (cnt (shB T (A 7)) (tN T)) (x, f 5, y, nI 0) c (fN (lbS T (shB T (A 7)) (cnt (shB T (A 7)) (tN T)) (x, f 5, y, nI 0)) c ((-1), f 5, (-1), fun _ => 0)); rw [← hl, lbS, if_neg (by simp [*])]) (hbo) (by omega)
          · skip
            have hb_54 := bI_1 h_54
            refine q_aload_n F 0 dX11_layBest_57 rfl ?_
            refine q_iload_n F 1 dX11_layBest_58 rfl ?_
            refine q_put F (j := 8) 0 rfl rfl hi11 tyX11 tyX11_ok nmX11 (by decide) hf102_11 rfl rfl rfl rfl (Nat.le_of_ble_eq_true rfl) dX11_layBest_59 (ws' := mC E a (upd (upd (upd (upd (upd (upd (upd f 8 x) 9 i9) 10 u9) 15 (nI (cnt (shB T (A 7)) (tN T)))) 16 l9) 17 m9) 18 s9) hh (va_up (va_up (va_up A 12 (odA (whA (shB T (A 7)) (A 14) (tN T)) (cnt (shB T (A 7)) (tN T)) c O9 (cnt (shB T (A 7)) (tN T)))) 13 BO9) 14 (whA (shB T (A 7)) (A 14) (tN T))) ++ tl) rfl ?_
            refine q_aload_n F 0 dX11_layBest_62 rfl ?_
            refine q_aload_n F 0 dX11_layBest_63 rfl ?_
            refine q_get F (ci := 11) (j := 5) (v := .int (f 5)) (List.mem_append_left _ (List.mem_of_getElem? (i := 0) rfl)) rfl hi11 (by decide) hf76_11 rfl rfl dX11_layBest_64 ?_
            refine q_put F (j := 9) 0 rfl rfl hi11 tyX11 tyX11_ok nmX11 (by decide) hf105_11 rfl rfl rfl rfl (Nat.le_of_ble_eq_true rfl) dX11_layBest_67 (ws' := mC E a (upd (upd (upd (upd (upd (upd (upd f 8 x) 9 (f 5)) 10 u9) 15 (nI (cnt (shB T (A 7)) (tN T)))) 16 l9) 17 m9) 18 s9) hh (va_up (va_up (va_up A 12 (odA (whA (shB T (A 7)) (A 14) (tN T)) (cnt (shB T (A 7)) (tN T)) c O9 (cnt (shB T (A 7)) (tN T)))) 13 BO9) 14 (whA (shB T (A 7)) (A 14) (tN T))) ++ tl) rfl ?_
            refine q_aload_n F 0 dX11_layBest_70 rfl ?_
            refine q_iload_n F 2 dX11_layBest_71 rfl ?_
            refine q_put F (j := 10) 0 rfl rfl hi11 tyX11 tyX11_ok nmX11 (by decide) hf108_11 rfl rfl rfl rfl (Nat.le_of_ble_eq_true rfl) dX11_layBest_72 (ws' := mC E a (upd (upd (upd (upd (upd (upd (upd f 8 x) 9 (f 5)) 10 y) 15 (nI (cnt (shB T (A 7)) (tN T)))) 16 l9) 17 m9) 18 s9) hh (va_up (va_up (va_up A 12 (odA (whA (shB T (A 7)) (A 14) (tN T)) (cnt (shB T (A 7)) (tN T)) c O9 (cnt (shB T (A 7)) (tN T)))) 13 BO9) 14 (whA (shB T (A 7)) (A 14) (tN T))) ++ tl) rfl ?_
            refine q_iconst F dX11_layBest_75 (v := nI 0) (by decide) ?_
            refine q_istore F (lv' := [(5, .int (nI 0)), (0, .ref (a 32)), (1, .int x), (2, .int y), (3, .int (wb (shB T (A 7)) 6)), (4, .int (nI c))]) dX11_layBest_76 (by decide) rfl ?_
            refine q_iconst F dX11_layBest_78 (v := nI 0) (by decide) ?_
            refine q_istore F (lv' := [(6, .int (nI 0)), (5, .int (nI 0)), (0, .ref (a 32)), (1, .int x), (2, .int y), (3, .int (wb (shB T (A 7)) 6)), (4, .int (nI c))]) dX11_layBest_79 (by decide) rfl ?_
            have lb81 : ∀ (fu : Nat) (k : Nat) (p8 : Int32) (m8 : Int32) (u8 : Int32) (t8 : Int32) (hk : k ≤ cnt (shB T (A 7)) (tN T)) (hz : ((p8, m8, u8, t8) : gZs) = rnR T (odC (shB T (A 7)) (tN T) (cnt (shB T (A 7)) (tN T)) c) (x, f 5, y, nI 0) k) (hp8 : okP p8), cnt (shB T (A 7)) (tN T) - k < fu → gW p_ l e_ (rmL 2 0 0) s_ m_ args_ below_ meth_ c_ E A_ 7 (MQ below_ (gQ E A_ P_) args_ s_ 0 0 A_) 81 [(0, .ref (a 32)), (1, .int x), (2, .int y), (3, .int (wb (shB T (A 7)) 6)), (4, .int (nI c)), (5, .int t8), (6, .int (nI k))] [] (mC E a (upd (upd (upd (upd (upd (upd (upd f 8 p8) 9 m8) 10 u8) 15 (nI (cnt (shB T (A 7)) (tN T)))) 16 l9) 17 m9) 18 s9) hh (va_up (va_up (va_up A 12 (odA (whA (shB T (A 7)) (A 14) (tN T)) (cnt (shB T (A 7)) (tN T)) c O9 (cnt (shB T (A 7)) (tN T)))) 13 BO9) 14 (whA (shB T (A 7)) (A 14) (tN T))) ++ tl) 0 0 := by
              intro fu_81
              induction fu_81 with
              | zero => intro k p8 m8 u8 t8 hk hz hp8 hfu; exact absurd hfu (Nat.not_lt_zero _)
              | succ fu_81 ih_81 =>
                intro k p8 m8 u8 t8 hk hz hp8 hfu_81
                refine q_iload F 6 dX11_layBest_81 rfl ?_
                refine q_aload_n F 0 dX11_layBest_83 rfl ?_
                refine q_get F (ci := 11) (j := 15) (v := .int (nI (cnt (shB T (A 7)) (tN T)))) (List.mem_append_left _ (List.mem_of_getElem? (i := 0) rfl)) rfl hi11 (by decide) hf141_11 rfl rfl dX11_layBest_84 ?_
                refine q_icmp_ge F (tgt := 112) dX11_layBest_87 (by decide) (fun h_87 => ?_) (fun h_87 => ?_)
                · skip
                  have hn_87 : k ≥ (cnt (shB T (A 7)) (tN T)) := nf_ge_t (by omega) (by omega) h_87
                  obtain rfl : k = cnt (shB T (A 7)) (tN T) := by omega
                  have hzK := hz
                  refine q_aload_n F 0 dX11_layBest_112 rfl ?_
                  refine q_aload_n F 0 dX11_layBest_113 rfl ?_
                  refine q_get F (ci := 11) (j := 18) (v := .int s9) (List.mem_append_left _ (List.mem_of_getElem? (i := 0) rfl)) rfl hi11 (by decide) hf154_11 rfl rfl dX11_layBest_114 ?_
                  refine q_iconst F dX11_layBest_117 (v := (-1)) (by decide) ?_
                  have jn143 : gW p_ l e_ (rmL 2 0 0) s_ m_ args_ below_ meth_ c_ E A_ 7 (MQ below_ (gQ E A_ P_) args_ s_ 0 0 A_) 143 [(0, .ref (a 32)), (1, .int x), (2, .int y), (3, .int (wb (shB T (A 7)) 6)), (4, .int (nI c)), (5, .int t8), (6, .int (nI (cnt (shB T (A 7)) (tN T))))] [.int (smF m8 s9), .ref (a 32)] (mC E a (upd (upd (upd (upd (upd (upd (upd f 8 p8) 9 m8) 10 u8) 15 (nI (cnt (shB T (A 7)) (tN T)))) 16 l9) 17 m9) 18 s9) hh (va_up (va_up (va_up A 12 (odA (whA (shB T (A 7)) (A 14) (tN T)) (cnt (shB T (A 7)) (tN T)) c O9 (cnt (shB T (A 7)) (tN T)))) 13 BO9) 14 (whA (shB T (A 7)) (A 14) (tN T))) ++ tl) 0 0 := by
                    refine q_put F (j := 18) 0 rfl rfl hi11 tyX11 tyX11_ok nmX11 (by decide) hf154_11 rfl rfl rfl rfl (Nat.le_of_ble_eq_true rfl) dX11_layBest_143 (ws' := mC E a (upd (upd (upd (upd (upd (upd (upd f 8 p8) 9 m8) 10 u8) 15 (nI (cnt (shB T (A 7)) (tN T)))) 16 l9) 17 m9) 18 (smF m8 s9)) hh (va_up (va_up (va_up A 12 (odA (whA (shB T (A 7)) (A 14) (tN T)) (cnt (shB T (A 7)) (tN T)) c O9 (cnt (shB T (A 7)) (tN T)))) 13 BO9) 14 (whA (shB T (A 7)) (A 14) (tN T))) ++ tl) rfl ?_
                    refine q_aload_n F 0 dX11_layBest_146 rfl ?_
                    refine q_get F (ci := 11) (j := 16) (v := .int l9) (List.mem_append_left _ (List.mem_of_getElem? (i := 0) rfl)) rfl hi11 (by decide) hf148_11 rfl rfl dX11_layBest_147 ?_
                    refine q_iconst F dX11_layBest_150 (v := (-1)) (by decide) ?_
                    refine q_icmp_eq F (tgt := 183) dX11_layBest_151 (by decide) (fun h_151 => ?_) (fun h_151 => ?_)
                    · skip
                      refine q_aload_n F 0 dX11_layBest_183 rfl ?_
                      refine q_iload F 5 dX11_layBest_184 rfl ?_
                      refine q_put F (j := 16) 0 rfl rfl hi11 tyX11 tyX11_ok nmX11 (by decide) hf148_11 rfl rfl rfl rfl (Nat.le_of_ble_eq_true rfl) dX11_layBest_186 (ws' := mC E a (upd (upd (upd (upd (upd (upd (upd f 8 p8) 9 m8) 10 u8) 15 (nI (cnt (shB T (A 7)) (tN T)))) 16 t8) 17 m9) 18 (smF m8 s9)) hh (va_up (va_up (va_up A 12 (odA (whA (shB T (A 7)) (A 14) (tN T)) (cnt (shB T (A 7)) (tN T)) c O9 (cnt (shB T (A 7)) (tN T)))) 13 BO9) 14 (whA (shB T (A 7)) (A 14) (tN T))) ++ tl) rfl ?_
                      refine q_aload_n F 0 dX11_layBest_189 rfl ?_
                      refine q_aload_n F 0 dX11_layBest_190 rfl ?_
                      refine q_get F (ci := 11) (j := 9) (v := .int m8) (List.mem_append_left _ (List.mem_of_getElem? (i := 0) rfl)) rfl hi11 (by decide) hf105_11 rfl rfl dX11_layBest_191 ?_
                      refine q_put F (j := 17) 0 rfl rfl hi11 tyX11 tyX11_ok nmX11 (by decide) hf151_11 rfl rfl rfl rfl (Nat.le_of_ble_eq_true rfl) dX11_layBest_194 (ws' := mC E a (upd (upd (upd (upd (upd (upd (upd f 8 p8) 9 m8) 10 u8) 15 (nI (cnt (shB T (A 7)) (tN T)))) 16 t8) 17 m8) 18 (smF m8 s9)) hh (va_up (va_up (va_up A 12 (odA (whA (shB T (A 7)) (A 14) (tN T)) (cnt (shB T (A 7)) (tN T)) c O9 (cnt (shB T (A 7)) (tN T)))) 13 BO9) 14 (whA (shB T (A 7)) (A 14) (tN T))) ++ tl) rfl ?_
                      refine q_aload_n F 0 dX11_layBest_197 rfl ?_
                      refine q_get F (ci := 11) (j := 12) (v := .ref (a 12)) (List.mem_append_left _ (List.mem_of_getElem? (i := 0) rfl)) rfl hi11 (by decide) hf19_11 rfl rfl dX11_layBest_198 ?_
                      refine q_aload_n F 0 dX11_layBest_201 rfl ?_
                      refine q_get F (ci := 11) (j := 13) (v := .ref (a 13)) (List.mem_append_left _ (List.mem_of_getElem? (i := 0) rfl)) rfl hi11 (by decide) hf22_11 rfl rfl dX11_layBest_202 ?_
                      refine q_callS F (As := [.ref (a 12), .ref (a 13)]) (rest := []) (c_X11_copy_12_13 l E a (upd (upd (upd (upd (upd (upd (upd f 8 p8) 9 m8) 10 u8) 15 (nI (cnt (shB T (A 7)) (tN T)))) 16 t8) 17 m8) 18 (smF m8 s9)) hh (va_up (va_up (va_up A 12 (odA (whA (shB T (A 7)) (A 14) (tN T)) (cnt (shB T (A 7)) (tN T)) c O9 (cnt (shB T (A 7)) (tN T)))) 13 BO9) 14 (whA (shB T (A 7)) (A 14) (tN T))) tl) (List.Perm.refl _) gX11_layBest_X11_copy rfl rfl rfl hd_X11_copy ⟨by decide, by decide⟩ rfl (Nat.le_of_ble_eq_true rfl) dX11_layBest_205 ⟨Nat.le_of_ble_eq_true rfl, Nat.le_of_ble_eq_true rfl⟩ (fun v_ w_ hvw => ?_)
                      rw [hvw.1, hvw.2]
                      clear hvw
                      refine q_at (pc' := 208) (st' := []) (ws' := mC E a (upd (upd (upd (upd (upd (upd (upd f 8 p8) 9 m8) 10 u8) 15 (nI (cnt (shB T (A 7)) (tN T)))) 16 t8) 17 m8) 18 (smF m8 s9)) hh (va_up (va_up (va_up A 12 (odA (whA (shB T (A 7)) (A 14) (tN T)) (cnt (shB T (A 7)) (tN T)) c O9 (cnt (shB T (A 7)) (tN T)))) 13 (odA (whA (shB T (A 7)) (A 14) (tN T)) (cnt (shB T (A 7)) (tN T)) c O9 (cnt (shB T (A 7)) (tN T)))) 14 (whA (shB T (A 7)) (A 14) (tN T))) ++ tl) (k' := 0) (n' := 0) rfl rfl rfl rfl rfl ?_
                      refine q_iinc F 4 (v := nI (c + 1)) (lv' := [(4, .int (nI (c + 1))), (0, .ref (a 32)), (1, .int x), (2, .int y), (3, .int (wb (shB T (A 7)) 6)), (5, .int t8), (6, .int (nI (cnt (shB T (A 7)) (tN T))))]) dX11_layBest_208 rfl (nI_1 _) (by decide) rfl ?_
                      refine q_goto F (tgt := 31) dX11_layBest_211 (by decide) ?_
                      refine q_lv [1, 2, 3, 4, 0] (lv' := [(0, .ref (a 32)), (1, .int x), (2, .int y), (3, .int (wb (shB T (A 7)) 6)), (4, .int (nI (c + 1)))]) rfl ?_
                      refine q_to (lv' := [(0, .ref (a 32)), (1, .int x), (2, .int y), (3, .int (wb (shB T (A 7)) 6)), (4, .int (nI (c + 1)))]) (st' := []) (ws' := mC E a (upd (upd (upd (upd (upd (upd (upd f 8 p8) 9 m8) 10 u8) 15 (nI (cnt (shB T (A 7)) (tN T)))) 16 t8) 17 m8) 18 (smF m8 s9)) hh (va_up (va_up (va_up A 12 (odA (whA (shB T (A 7)) (A 14) (tN T)) (cnt (shB T (A 7)) (tN T)) c O9 (cnt (shB T (A 7)) (tN T)))) 13 (odA (whA (shB T (A 7)) (A 14) (tN T)) (cnt (shB T (A 7)) (tN T)) c O9 (cnt (shB T (A 7)) (tN T)))) 14 (whA (shB T (A 7)) (A 14) (tN T))) ++ tl) rfl rfl rfl ?_
                      exact ih_31 (c + 1) p8 m8 u8 t8 m8 (smF m8 s9) (odC (shB T (A 7)) (tN T) (cnt (shB T (A 7)) (tN T)) c) (odA (whA (shB T (A 7)) (A 14) (tN T)) (cnt (shB T (A 7)) (tN T)) c O9 (cnt (shB T (A 7)) (tN T))) (odA (whA (shB T (A 7)) (A 14) (tN T)) (cnt (shB T (A 7)) (tN T)) c O9 (cnt (shB T (A 7)) (tN T))) (by omega) (by show _ = lbS T (shB T (A 7)) (cnt (shB T (A 7)) (tN T)) (x, f 5, y, nI 0) c (fN (lbS T (shB T (A 7)) (cnt (shB T (A 7)) (tN T)) (x, f 5, y, nI 0)) c ((-1), f 5, (-1), fun _ => 0)); rw [← hl, lbS, if_pos (by simp [*]), ← hzK]; exact (lbU_t (z := (p8, m8, u8, t8)) (a := (l9, m9, s9, bo9)) (Or.inl h_151)).symm) (Or.inr (fun k hk => (odC_at (w0 := A 14) (O0 := O9) (c := c) hk).1)) (by omega)
                    · skip
                      refine q_iload F 5 dX11_layBest_154 rfl ?_
                      refine q_aload_n F 0 dX11_layBest_156 rfl ?_
                      refine q_get F (ci := 11) (j := 16) (v := .int l9) (List.mem_append_left _ (List.mem_of_getElem? (i := 0) rfl)) rfl hi11 (by decide) hf148_11 rfl rfl dX11_layBest_157 ?_
                      refine q_icmp_lt F (tgt := 183) dX11_layBest_160 (by decide) (fun h_160 => ?_) (fun h_160 => ?_)
                      · skip
                        have hz_160 := Int32.not_le.mpr h_160
                        refine q_aload_n F 0 dX11_layBest_183 rfl ?_
                        refine q_iload F 5 dX11_layBest_184 rfl ?_
                        refine q_put F (j := 16) 0 rfl rfl hi11 tyX11 tyX11_ok nmX11 (by decide) hf148_11 rfl rfl rfl rfl (Nat.le_of_ble_eq_true rfl) dX11_layBest_186 (ws' := mC E a (upd (upd (upd (upd (upd (upd (upd f 8 p8) 9 m8) 10 u8) 15 (nI (cnt (shB T (A 7)) (tN T)))) 16 t8) 17 m9) 18 (smF m8 s9)) hh (va_up (va_up (va_up A 12 (odA (whA (shB T (A 7)) (A 14) (tN T)) (cnt (shB T (A 7)) (tN T)) c O9 (cnt (shB T (A 7)) (tN T)))) 13 BO9) 14 (whA (shB T (A 7)) (A 14) (tN T))) ++ tl) rfl ?_
                        refine q_aload_n F 0 dX11_layBest_189 rfl ?_
                        refine q_aload_n F 0 dX11_layBest_190 rfl ?_
                        refine q_get F (ci := 11) (j := 9) (v := .int m8) (List.mem_append_left _ (List.mem_of_getElem? (i := 0) rfl)) rfl hi11 (by decide) hf105_11 rfl rfl dX11_layBest_191 ?_
                        refine q_put F (j := 17) 0 rfl rfl hi11 tyX11 tyX11_ok nmX11 (by decide) hf151_11 rfl rfl rfl rfl (Nat.le_of_ble_eq_true rfl) dX11_layBest_194 (ws' := mC E a (upd (upd (upd (upd (upd (upd (upd f 8 p8) 9 m8) 10 u8) 15 (nI (cnt (shB T (A 7)) (tN T)))) 16 t8) 17 m8) 18 (smF m8 s9)) hh (va_up (va_up (va_up A 12 (odA (whA (shB T (A 7)) (A 14) (tN T)) (cnt (shB T (A 7)) (tN T)) c O9 (cnt (shB T (A 7)) (tN T)))) 13 BO9) 14 (whA (shB T (A 7)) (A 14) (tN T))) ++ tl) rfl ?_
                        refine q_aload_n F 0 dX11_layBest_197 rfl ?_
                        refine q_get F (ci := 11) (j := 12) (v := .ref (a 12)) (List.mem_append_left _ (List.mem_of_getElem? (i := 0) rfl)) rfl hi11 (by decide) hf19_11 rfl rfl dX11_layBest_198 ?_
                        refine q_aload_n F 0 dX11_layBest_201 rfl ?_
                        refine q_get F (ci := 11) (j := 13) (v := .ref (a 13)) (List.mem_append_left _ (List.mem_of_getElem? (i := 0) rfl)) rfl hi11 (by decide) hf22_11 rfl rfl dX11_layBest_202 ?_
                        refine q_callS F (As := [.ref (a 12), .ref (a 13)]) (rest := []) (c_X11_copy_12_13 l E a (upd (upd (upd (upd (upd (upd (upd f 8 p8) 9 m8) 10 u8) 15 (nI (cnt (shB T (A 7)) (tN T)))) 16 t8) 17 m8) 18 (smF m8 s9)) hh (va_up (va_up (va_up A 12 (odA (whA (shB T (A 7)) (A 14) (tN T)) (cnt (shB T (A 7)) (tN T)) c O9 (cnt (shB T (A 7)) (tN T)))) 13 BO9) 14 (whA (shB T (A 7)) (A 14) (tN T))) tl) (List.Perm.refl _) gX11_layBest_X11_copy rfl rfl rfl hd_X11_copy ⟨by decide, by decide⟩ rfl (Nat.le_of_ble_eq_true rfl) dX11_layBest_205 ⟨Nat.le_of_ble_eq_true rfl, Nat.le_of_ble_eq_true rfl⟩ (fun v_ w_ hvw => ?_)
                        rw [hvw.1, hvw.2]
                        clear hvw
                        refine q_at (pc' := 208) (st' := []) (ws' := mC E a (upd (upd (upd (upd (upd (upd (upd f 8 p8) 9 m8) 10 u8) 15 (nI (cnt (shB T (A 7)) (tN T)))) 16 t8) 17 m8) 18 (smF m8 s9)) hh (va_up (va_up (va_up A 12 (odA (whA (shB T (A 7)) (A 14) (tN T)) (cnt (shB T (A 7)) (tN T)) c O9 (cnt (shB T (A 7)) (tN T)))) 13 (odA (whA (shB T (A 7)) (A 14) (tN T)) (cnt (shB T (A 7)) (tN T)) c O9 (cnt (shB T (A 7)) (tN T)))) 14 (whA (shB T (A 7)) (A 14) (tN T))) ++ tl) (k' := 0) (n' := 0) rfl rfl rfl rfl rfl ?_
                        refine q_iinc F 4 (v := nI (c + 1)) (lv' := [(4, .int (nI (c + 1))), (0, .ref (a 32)), (1, .int x), (2, .int y), (3, .int (wb (shB T (A 7)) 6)), (5, .int t8), (6, .int (nI (cnt (shB T (A 7)) (tN T))))]) dX11_layBest_208 rfl (nI_1 _) (by decide) rfl ?_
                        refine q_goto F (tgt := 31) dX11_layBest_211 (by decide) ?_
                        refine q_lv [1, 2, 3, 4, 0] (lv' := [(0, .ref (a 32)), (1, .int x), (2, .int y), (3, .int (wb (shB T (A 7)) 6)), (4, .int (nI (c + 1)))]) rfl ?_
                        refine q_to (lv' := [(0, .ref (a 32)), (1, .int x), (2, .int y), (3, .int (wb (shB T (A 7)) 6)), (4, .int (nI (c + 1)))]) (st' := []) (ws' := mC E a (upd (upd (upd (upd (upd (upd (upd f 8 p8) 9 m8) 10 u8) 15 (nI (cnt (shB T (A 7)) (tN T)))) 16 t8) 17 m8) 18 (smF m8 s9)) hh (va_up (va_up (va_up A 12 (odA (whA (shB T (A 7)) (A 14) (tN T)) (cnt (shB T (A 7)) (tN T)) c O9 (cnt (shB T (A 7)) (tN T)))) 13 (odA (whA (shB T (A 7)) (A 14) (tN T)) (cnt (shB T (A 7)) (tN T)) c O9 (cnt (shB T (A 7)) (tN T)))) 14 (whA (shB T (A 7)) (A 14) (tN T))) ++ tl) rfl rfl rfl ?_
                        exact ih_31 (c + 1) p8 m8 u8 t8 m8 (smF m8 s9) (odC (shB T (A 7)) (tN T) (cnt (shB T (A 7)) (tN T)) c) (odA (whA (shB T (A 7)) (A 14) (tN T)) (cnt (shB T (A 7)) (tN T)) c O9 (cnt (shB T (A 7)) (tN T))) (odA (whA (shB T (A 7)) (A 14) (tN T)) (cnt (shB T (A 7)) (tN T)) c O9 (cnt (shB T (A 7)) (tN T))) (by omega) (by show _ = lbS T (shB T (A 7)) (cnt (shB T (A 7)) (tN T)) (x, f 5, y, nI 0) c (fN (lbS T (shB T (A 7)) (cnt (shB T (A 7)) (tN T)) (x, f 5, y, nI 0)) c ((-1), f 5, (-1), fun _ => 0)); rw [← hl, lbS, if_pos (by simp [*]), ← hzK]; exact (lbU_t (z := (p8, m8, u8, t8)) (a := (l9, m9, s9, bo9)) (Or.inr (Or.inl h_160))).symm) (Or.inr (fun k hk => (odC_at (w0 := A 14) (O0 := O9) (c := c) hk).1)) (by omega)
                      · skip
                        have hz_160 := Int32.not_lt.mp h_160
                        refine q_iload F 5 dX11_layBest_163 rfl ?_
                        refine q_aload_n F 0 dX11_layBest_165 rfl ?_
                        refine q_get F (ci := 11) (j := 16) (v := .int l9) (List.mem_append_left _ (List.mem_of_getElem? (i := 0) rfl)) rfl hi11 (by decide) hf148_11 rfl rfl dX11_layBest_166 ?_
                        refine q_icmp_ne F (tgt := 208) dX11_layBest_169 (by decide) (fun h_169 => ?_) (fun h_169 => ?_)
                        · skip
                          refine q_iinc F 4 (v := nI (c + 1)) (lv' := [(4, .int (nI (c + 1))), (0, .ref (a 32)), (1, .int x), (2, .int y), (3, .int (wb (shB T (A 7)) 6)), (5, .int t8), (6, .int (nI (cnt (shB T (A 7)) (tN T))))]) dX11_layBest_208 rfl (nI_1 _) (by decide) rfl ?_
                          refine q_goto F (tgt := 31) dX11_layBest_211 (by decide) ?_
                          refine q_lv [1, 2, 3, 4, 0] (lv' := [(0, .ref (a 32)), (1, .int x), (2, .int y), (3, .int (wb (shB T (A 7)) 6)), (4, .int (nI (c + 1)))]) rfl ?_
                          refine q_to (lv' := [(0, .ref (a 32)), (1, .int x), (2, .int y), (3, .int (wb (shB T (A 7)) 6)), (4, .int (nI (c + 1)))]) (st' := []) (ws' := mC E a (upd (upd (upd (upd (upd (upd (upd f 8 p8) 9 m8) 10 u8) 15 (nI (cnt (shB T (A 7)) (tN T)))) 16 l9) 17 m9) 18 (smF m8 s9)) hh (va_up (va_up (va_up A 12 (odA (whA (shB T (A 7)) (A 14) (tN T)) (cnt (shB T (A 7)) (tN T)) c O9 (cnt (shB T (A 7)) (tN T)))) 13 BO9) 14 (whA (shB T (A 7)) (A 14) (tN T))) ++ tl) rfl rfl rfl ?_
                          exact ih_31 (c + 1) p8 m8 u8 l9 m9 (smF m8 s9) bo9 (odA (whA (shB T (A 7)) (A 14) (tN T)) (cnt (shB T (A 7)) (tN T)) c O9 (cnt (shB T (A 7)) (tN T))) BO9 (by omega) (by show _ = lbS T (shB T (A 7)) (cnt (shB T (A 7)) (tN T)) (x, f 5, y, nI 0) c (fN (lbS T (shB T (A 7)) (cnt (shB T (A 7)) (tN T)) (x, f 5, y, nI 0)) c ((-1), f 5, (-1), fun _ => 0)); rw [← hl, lbS, if_pos (by simp [*]), ← hzK]; exact (lbU_f (z := (p8, m8, u8, t8)) (a := (l9, m9, s9, bo9)) (by rintro (z | z | z); exact h_151 z; exact h_160 z; exact h_169 z.1)).symm) (hbo) (by omega)
                        · skip
                          refine q_aload_n F 0 dX11_layBest_172 rfl ?_
                          refine q_get F (ci := 11) (j := 9) (v := .int m8) (List.mem_append_left _ (List.mem_of_getElem? (i := 0) rfl)) rfl hi11 (by decide) hf105_11 rfl rfl dX11_layBest_173 ?_
                          refine q_aload_n F 0 dX11_layBest_176 rfl ?_
                          refine q_get F (ci := 11) (j := 17) (v := .int m9) (List.mem_append_left _ (List.mem_of_getElem? (i := 0) rfl)) rfl hi11 (by decide) hf151_11 rfl rfl dX11_layBest_177 ?_
                          refine q_icmp_ge F (tgt := 208) dX11_layBest_180 (by decide) (fun h_180 => ?_) (fun h_180 => ?_)
                          · skip
                            have hz_180 := Int32.not_lt.mpr h_180
                            refine q_iinc F 4 (v := nI (c + 1)) (lv' := [(4, .int (nI (c + 1))), (0, .ref (a 32)), (1, .int x), (2, .int y), (3, .int (wb (shB T (A 7)) 6)), (5, .int t8), (6, .int (nI (cnt (shB T (A 7)) (tN T))))]) dX11_layBest_208 rfl (nI_1 _) (by decide) rfl ?_
                            refine q_goto F (tgt := 31) dX11_layBest_211 (by decide) ?_
                            refine q_lv [1, 2, 3, 4, 0] (lv' := [(0, .ref (a 32)), (1, .int x), (2, .int y), (3, .int (wb (shB T (A 7)) 6)), (4, .int (nI (c + 1)))]) rfl ?_
                            refine q_to (lv' := [(0, .ref (a 32)), (1, .int x), (2, .int y), (3, .int (wb (shB T (A 7)) 6)), (4, .int (nI (c + 1)))]) (st' := []) (ws' := mC E a (upd (upd (upd (upd (upd (upd (upd f 8 p8) 9 m8) 10 u8) 15 (nI (cnt (shB T (A 7)) (tN T)))) 16 l9) 17 m9) 18 (smF m8 s9)) hh (va_up (va_up (va_up A 12 (odA (whA (shB T (A 7)) (A 14) (tN T)) (cnt (shB T (A 7)) (tN T)) c O9 (cnt (shB T (A 7)) (tN T)))) 13 BO9) 14 (whA (shB T (A 7)) (A 14) (tN T))) ++ tl) rfl rfl rfl ?_
                            exact ih_31 (c + 1) p8 m8 u8 l9 m9 (smF m8 s9) bo9 (odA (whA (shB T (A 7)) (A 14) (tN T)) (cnt (shB T (A 7)) (tN T)) c O9 (cnt (shB T (A 7)) (tN T))) BO9 (by omega) (by show _ = lbS T (shB T (A 7)) (cnt (shB T (A 7)) (tN T)) (x, f 5, y, nI 0) c (fN (lbS T (shB T (A 7)) (cnt (shB T (A 7)) (tN T)) (x, f 5, y, nI 0)) c ((-1), f 5, (-1), fun _ => 0)); rw [← hl, lbS, if_pos (by simp [*]), ← hzK]; exact (lbU_f (z := (p8, m8, u8, t8)) (a := (l9, m9, s9, bo9)) (by rintro (z | z | z); exact h_151 z; exact h_160 z; exact z.2 h_180)).symm) (hbo) (by omega)
                          · skip
                            have hz_180 := Int32.not_le.mp h_180
                            refine q_aload_n F 0 dX11_layBest_183 rfl ?_
                            refine q_iload F 5 dX11_layBest_184 rfl ?_
                            refine q_put F (j := 16) 0 rfl rfl hi11 tyX11 tyX11_ok nmX11 (by decide) hf148_11 rfl rfl rfl rfl (Nat.le_of_ble_eq_true rfl) dX11_layBest_186 (ws' := mC E a (upd (upd (upd (upd (upd (upd (upd f 8 p8) 9 m8) 10 u8) 15 (nI (cnt (shB T (A 7)) (tN T)))) 16 t8) 17 m9) 18 (smF m8 s9)) hh (va_up (va_up (va_up A 12 (odA (whA (shB T (A 7)) (A 14) (tN T)) (cnt (shB T (A 7)) (tN T)) c O9 (cnt (shB T (A 7)) (tN T)))) 13 BO9) 14 (whA (shB T (A 7)) (A 14) (tN T))) ++ tl) rfl ?_
                            refine q_aload_n F 0 dX11_layBest_189 rfl ?_
                            refine q_aload_n F 0 dX11_layBest_190 rfl ?_
                            refine q_get F (ci := 11) (j := 9) (v := .int m8) (List.mem_append_left _ (List.mem_of_getElem? (i := 0) rfl)) rfl hi11 (by decide) hf105_11 rfl rfl dX11_layBest_191 ?_
                            refine q_put F (j := 17) 0 rfl rfl hi11 tyX11 tyX11_ok nmX11 (by decide) hf151_11 rfl rfl rfl rfl (Nat.le_of_ble_eq_true rfl) dX11_layBest_194 (ws' := mC E a (upd (upd (upd (upd (upd (upd (upd f 8 p8) 9 m8) 10 u8) 15 (nI (cnt (shB T (A 7)) (tN T)))) 16 t8) 17 m8) 18 (smF m8 s9)) hh (va_up (va_up (va_up A 12 (odA (whA (shB T (A 7)) (A 14) (tN T)) (cnt (shB T (A 7)) (tN T)) c O9 (cnt (shB T (A 7)) (tN T)))) 13 BO9) 14 (whA (shB T (A 7)) (A 14) (tN T))) ++ tl) rfl ?_
                            refine q_aload_n F 0 dX11_layBest_197 rfl ?_
                            refine q_get F (ci := 11) (j := 12) (v := .ref (a 12)) (List.mem_append_left _ (List.mem_of_getElem? (i := 0) rfl)) rfl hi11 (by decide) hf19_11 rfl rfl dX11_layBest_198 ?_
                            refine q_aload_n F 0 dX11_layBest_201 rfl ?_
                            refine q_get F (ci := 11) (j := 13) (v := .ref (a 13)) (List.mem_append_left _ (List.mem_of_getElem? (i := 0) rfl)) rfl hi11 (by decide) hf22_11 rfl rfl dX11_layBest_202 ?_
                            refine q_callS F (As := [.ref (a 12), .ref (a 13)]) (rest := []) (c_X11_copy_12_13 l E a (upd (upd (upd (upd (upd (upd (upd f 8 p8) 9 m8) 10 u8) 15 (nI (cnt (shB T (A 7)) (tN T)))) 16 t8) 17 m8) 18 (smF m8 s9)) hh (va_up (va_up (va_up A 12 (odA (whA (shB T (A 7)) (A 14) (tN T)) (cnt (shB T (A 7)) (tN T)) c O9 (cnt (shB T (A 7)) (tN T)))) 13 BO9) 14 (whA (shB T (A 7)) (A 14) (tN T))) tl) (List.Perm.refl _) gX11_layBest_X11_copy rfl rfl rfl hd_X11_copy ⟨by decide, by decide⟩ rfl (Nat.le_of_ble_eq_true rfl) dX11_layBest_205 ⟨Nat.le_of_ble_eq_true rfl, Nat.le_of_ble_eq_true rfl⟩ (fun v_ w_ hvw => ?_)
                            rw [hvw.1, hvw.2]
                            clear hvw
                            refine q_at (pc' := 208) (st' := []) (ws' := mC E a (upd (upd (upd (upd (upd (upd (upd f 8 p8) 9 m8) 10 u8) 15 (nI (cnt (shB T (A 7)) (tN T)))) 16 t8) 17 m8) 18 (smF m8 s9)) hh (va_up (va_up (va_up A 12 (odA (whA (shB T (A 7)) (A 14) (tN T)) (cnt (shB T (A 7)) (tN T)) c O9 (cnt (shB T (A 7)) (tN T)))) 13 (odA (whA (shB T (A 7)) (A 14) (tN T)) (cnt (shB T (A 7)) (tN T)) c O9 (cnt (shB T (A 7)) (tN T)))) 14 (whA (shB T (A 7)) (A 14) (tN T))) ++ tl) (k' := 0) (n' := 0) rfl rfl rfl rfl rfl ?_
                            refine q_iinc F 4 (v := nI (c + 1)) (lv' := [(4, .int (nI (c + 1))), (0, .ref (a 32)), (1, .int x), (2, .int y), (3, .int (wb (shB T (A 7)) 6)), (5, .int t8), (6, .int (nI (cnt (shB T (A 7)) (tN T))))]) dX11_layBest_208 rfl (nI_1 _) (by decide) rfl ?_
                            refine q_goto F (tgt := 31) dX11_layBest_211 (by decide) ?_
                            refine q_lv [1, 2, 3, 4, 0] (lv' := [(0, .ref (a 32)), (1, .int x), (2, .int y), (3, .int (wb (shB T (A 7)) 6)), (4, .int (nI (c + 1)))]) rfl ?_
                            refine q_to (lv' := [(0, .ref (a 32)), (1, .int x), (2, .int y), (3, .int (wb (shB T (A 7)) 6)), (4, .int (nI (c + 1)))]) (st' := []) (ws' := mC E a (upd (upd (upd (upd (upd (upd (upd f 8 p8) 9 m8) 10 u8) 15 (nI (cnt (shB T (A 7)) (tN T)))) 16 t8) 17 m8) 18 (smF m8 s9)) hh (va_up (va_up (va_up A 12 (odA (whA (shB T (A 7)) (A 14) (tN T)) (cnt (shB T (A 7)) (tN T)) c O9 (cnt (shB T (A 7)) (tN T)))) 13 (odA (whA (shB T (A 7)) (A 14) (tN T)) (cnt (shB T (A 7)) (tN T)) c O9 (cnt (shB T (A 7)) (tN T)))) 14 (whA (shB T (A 7)) (A 14) (tN T))) ++ tl) rfl rfl rfl ?_
                            exact ih_31 (c + 1) p8 m8 u8 t8 m8 (smF m8 s9) (odC (shB T (A 7)) (tN T) (cnt (shB T (A 7)) (tN T)) c) (odA (whA (shB T (A 7)) (A 14) (tN T)) (cnt (shB T (A 7)) (tN T)) c O9 (cnt (shB T (A 7)) (tN T))) (odA (whA (shB T (A 7)) (A 14) (tN T)) (cnt (shB T (A 7)) (tN T)) c O9 (cnt (shB T (A 7)) (tN T))) (by omega) (by show _ = lbS T (shB T (A 7)) (cnt (shB T (A 7)) (tN T)) (x, f 5, y, nI 0) c (fN (lbS T (shB T (A 7)) (cnt (shB T (A 7)) (tN T)) (x, f 5, y, nI 0)) c ((-1), f 5, (-1), fun _ => 0)); rw [← hl, lbS, if_pos (by simp [*]), ← hzK]; exact (lbU_t (z := (p8, m8, u8, t8)) (a := (l9, m9, s9, bo9)) (Or.inr (Or.inr ⟨h_169, h_180⟩))).symm) (Or.inr (fun k hk => (odC_at (w0 := A 14) (O0 := O9) (c := c) hk).1)) (by omega)
                  refine q_icmp_eq F (tgt := 132) dX11_layBest_118 (by decide) (fun h_118 => ?_) (fun h_118 => ?_)
                  · skip
                    refine q_aload_n F 0 dX11_layBest_132 rfl ?_
                    refine q_get F (ci := 11) (j := 9) (v := .int m8) (List.mem_append_left _ (List.mem_of_getElem? (i := 0) rfl)) rfl hi11 (by decide) hf105_11 rfl rfl dX11_layBest_133 ?_
                    refine q_goto F (tgt := 143) dX11_layBest_136 (by decide) ?_
                    refine q_toi (smF m8 s9) (by rw [smF, if_pos (Or.inl h_118)]) ?_
                    exact jn143
                  · skip
                    refine q_aload_n F 0 dX11_layBest_121 rfl ?_
                    refine q_get F (ci := 11) (j := 9) (v := .int m8) (List.mem_append_left _ (List.mem_of_getElem? (i := 0) rfl)) rfl hi11 (by decide) hf105_11 rfl rfl dX11_layBest_122 ?_
                    refine q_aload_n F 0 dX11_layBest_125 rfl ?_
                    refine q_get F (ci := 11) (j := 18) (v := .int s9) (List.mem_append_left _ (List.mem_of_getElem? (i := 0) rfl)) rfl hi11 (by decide) hf154_11 rfl rfl dX11_layBest_126 ?_
                    refine q_icmp_ge F (tgt := 139) dX11_layBest_129 (by decide) (fun h_129 => ?_) (fun h_129 => ?_)
                    · skip
                      have hz_129 := Int32.not_lt.mpr h_129
                      refine q_aload_n F 0 dX11_layBest_139 rfl ?_
                      refine q_get F (ci := 11) (j := 18) (v := .int s9) (List.mem_append_left _ (List.mem_of_getElem? (i := 0) rfl)) rfl hi11 (by decide) hf154_11 rfl rfl dX11_layBest_140 ?_
                      refine q_toi (smF m8 s9) (by rw [smF, if_neg (by rintro (z | z); exact h_118 z; exact z h_129)]) ?_
                      exact jn143
                    · skip
                      have hz_129 := Int32.not_le.mp h_129
                      refine q_aload_n F 0 dX11_layBest_132 rfl ?_
                      refine q_get F (ci := 11) (j := 9) (v := .int m8) (List.mem_append_left _ (List.mem_of_getElem? (i := 0) rfl)) rfl hi11 (by decide) hf105_11 rfl rfl dX11_layBest_133 ?_
                      refine q_goto F (tgt := 143) dX11_layBest_136 (by decide) ?_
                      refine q_toi (smF m8 s9) (by rw [smF, if_pos (Or.inr h_129)]) ?_
                      exact jn143
                · skip
                  have hn_87 : k < (cnt (shB T (A 7)) (tN T)) := nf_ge_f (by omega) (by omega) h_87
                  have hod := odC_at (b := shB T (A 7)) (n := tN T) (w0 := A 14) (O0 := O9) (c := c) (k := k) hn_87
                  have hokn := hod.2.1
                  refine q_iload F 5 dX11_layBest_90 rfl ?_
                  refine q_aload_n F 0 dX11_layBest_92 rfl ?_
                  refine q_aload_n F 0 dX11_layBest_93 rfl ?_
                  refine q_get F (ci := 11) (j := 12) (v := .ref (a 12)) (List.mem_append_left _ (List.mem_of_getElem? (i := 0) rfl)) rfl hi11 (by decide) hf19_11 rfl rfl dX11_layBest_94 ?_
                  refine q_iload F 6 dX11_layBest_97 rfl ?_
                  refine q_iald F (f := odA (whA (shB T (A 7)) (A 14) (tN T)) (cnt (shB T (A 7)) (tN T)) c O9 (cnt (shB T (A 7)) (tN T))) (List.mem_append_left _ (List.mem_of_getElem? (i := 4) rfl)) k rfl (by omega) (by decide) dX11_layBest_99 ?_
                  refine q_toi (nI (odC (shB T (A 7)) (tN T) (cnt (shB T (A 7)) (tN T)) c k)) hod.1 ?_
                  refine q_callV F (ci := 11) (As := [.int (nI (odC (shB T (A 7)) (tN T) (cnt (shB T (A 7)) (tN T)) c k))]) (rest := [.int t8]) (List.mem_append_left _ (List.mem_of_getElem? (i := 0) rfl)) rfl (c_X11_opens l E a (upd (upd (upd (upd (upd (upd (upd f 8 p8) 9 m8) 10 u8) 15 (nI (cnt (shB T (A 7)) (tN T)))) 16 l9) 17 m9) 18 s9) hh (va_up (va_up (va_up A 12 (odA (whA (shB T (A 7)) (A 14) (tN T)) (cnt (shB T (A 7)) (tN T)) c O9 (cnt (shB T (A 7)) (tN T)))) 13 BO9) 14 (whA (shB T (A 7)) (A 14) (tN T))) tl T hm hn hR hO (odC (shB T (A 7)) (tN T) (cnt (shB T (A 7)) (tN T)) c k) hokn hp8) (List.Perm.refl _) gX11_layBest_X11_opens rfl rfl rfl hd_X11_opens ⟨by decide, by decide⟩ rfl (Nat.le_of_ble_eq_true rfl) dX11_layBest_100 ⟨Nat.le_of_ble_eq_true rfl, Nat.le_of_ble_eq_true rfl⟩ (fun v_ w_ hvw => ?_)
                  rw [hvw.1, hvw.2]
                  clear hvw
                  refine q_at (pc' := 103) (st' := [.int (ltA (tK T (odC (shB T (A 7)) (tN T) (cnt (shB T (A 7)) (tN T)) c k)) (tL T (odC (shB T (A 7)) (tN T) (cnt (shB T (A 7)) (tN T)) c k)) (tE T (odC (shB T (A 7)) (tN T) (cnt (shB T (A 7)) (tN T)) c k)) (brg (tK T (odC (shB T (A 7)) (tN T) (cnt (shB T (A 7)) (tN T)) c k)) (tP T (odC (shB T (A 7)) (tN T) (cnt (shB T (A 7)) (tN T)) c k)) p8 m8 u8)), .int t8]) (ws' := mC E a (upd (upd (upd (upd (upd (upd (upd f 8 (tP T (odC (shB T (A 7)) (tN T) (cnt (shB T (A 7)) (tN T)) c k))) 9 (brg (tK T (odC (shB T (A 7)) (tN T) (cnt (shB T (A 7)) (tN T)) c k)) (tP T (odC (shB T (A 7)) (tN T) (cnt (shB T (A 7)) (tN T)) c k)) p8 m8 u8)) 10 (kpu (tK T (odC (shB T (A 7)) (tN T) (cnt (shB T (A 7)) (tN T)) c k)) (brg (tK T (odC (shB T (A 7)) (tN T) (cnt (shB T (A 7)) (tN T)) c k)) (tP T (odC (shB T (A 7)) (tN T) (cnt (shB T (A 7)) (tN T)) c k)) p8 m8 u8))) 15 (nI (cnt (shB T (A 7)) (tN T)))) 16 l9) 17 m9) 18 s9) hh (va_up (va_up (va_up A 12 (odA (whA (shB T (A 7)) (A 14) (tN T)) (cnt (shB T (A 7)) (tN T)) c O9 (cnt (shB T (A 7)) (tN T)))) 13 BO9) 14 (whA (shB T (A 7)) (A 14) (tN T))) ++ tl) (k' := 0) (n' := 0) rfl rfl rfl rfl rfl ?_
                  refine q_iadd F dX11_layBest_103 ?_
                  refine q_istore F (lv' := [(5, .int (t8 + (ltA (tK T (odC (shB T (A 7)) (tN T) (cnt (shB T (A 7)) (tN T)) c k)) (tL T (odC (shB T (A 7)) (tN T) (cnt (shB T (A 7)) (tN T)) c k)) (tE T (odC (shB T (A 7)) (tN T) (cnt (shB T (A 7)) (tN T)) c k)) (brg (tK T (odC (shB T (A 7)) (tN T) (cnt (shB T (A 7)) (tN T)) c k)) (tP T (odC (shB T (A 7)) (tN T) (cnt (shB T (A 7)) (tN T)) c k)) p8 m8 u8)))), (0, .ref (a 32)), (1, .int x), (2, .int y), (3, .int (wb (shB T (A 7)) 6)), (4, .int (nI c)), (6, .int (nI k))]) dX11_layBest_104 (by decide) rfl ?_
                  refine q_iinc F 6 (v := nI (k + 1)) (lv' := [(6, .int (nI (k + 1))), (5, .int (t8 + (ltA (tK T (odC (shB T (A 7)) (tN T) (cnt (shB T (A 7)) (tN T)) c k)) (tL T (odC (shB T (A 7)) (tN T) (cnt (shB T (A 7)) (tN T)) c k)) (tE T (odC (shB T (A 7)) (tN T) (cnt (shB T (A 7)) (tN T)) c k)) (brg (tK T (odC (shB T (A 7)) (tN T) (cnt (shB T (A 7)) (tN T)) c k)) (tP T (odC (shB T (A 7)) (tN T) (cnt (shB T (A 7)) (tN T)) c k)) p8 m8 u8)))), (0, .ref (a 32)), (1, .int x), (2, .int y), (3, .int (wb (shB T (A 7)) 6)), (4, .int (nI c))]) dX11_layBest_106 rfl (nI_1 _) (by decide) rfl ?_
                  refine q_goto F (tgt := 81) dX11_layBest_109 (by decide) ?_
                  refine q_lv [2, 3, 4, 5, 6, 1, 0] (lv' := [(0, .ref (a 32)), (1, .int x), (2, .int y), (3, .int (wb (shB T (A 7)) 6)), (4, .int (nI c)), (5, .int (t8 + (ltA (tK T (odC (shB T (A 7)) (tN T) (cnt (shB T (A 7)) (tN T)) c k)) (tL T (odC (shB T (A 7)) (tN T) (cnt (shB T (A 7)) (tN T)) c k)) (tE T (odC (shB T (A 7)) (tN T) (cnt (shB T (A 7)) (tN T)) c k)) (brg (tK T (odC (shB T (A 7)) (tN T) (cnt (shB T (A 7)) (tN T)) c k)) (tP T (odC (shB T (A 7)) (tN T) (cnt (shB T (A 7)) (tN T)) c k)) p8 m8 u8)))), (6, .int (nI (k + 1)))]) rfl ?_
                  refine q_to (lv' := [(0, .ref (a 32)), (1, .int x), (2, .int y), (3, .int (wb (shB T (A 7)) 6)), (4, .int (nI c)), (5, .int (t8 + (ltA (tK T (odC (shB T (A 7)) (tN T) (cnt (shB T (A 7)) (tN T)) c k)) (tL T (odC (shB T (A 7)) (tN T) (cnt (shB T (A 7)) (tN T)) c k)) (tE T (odC (shB T (A 7)) (tN T) (cnt (shB T (A 7)) (tN T)) c k)) (brg (tK T (odC (shB T (A 7)) (tN T) (cnt (shB T (A 7)) (tN T)) c k)) (tP T (odC (shB T (A 7)) (tN T) (cnt (shB T (A 7)) (tN T)) c k)) p8 m8 u8)))), (6, .int (nI (k + 1)))]) (st' := []) (ws' := mC E a (upd (upd (upd (upd (upd (upd (upd f 8 (tP T (odC (shB T (A 7)) (tN T) (cnt (shB T (A 7)) (tN T)) c k))) 9 (brg (tK T (odC (shB T (A 7)) (tN T) (cnt (shB T (A 7)) (tN T)) c k)) (tP T (odC (shB T (A 7)) (tN T) (cnt (shB T (A 7)) (tN T)) c k)) p8 m8 u8)) 10 (kpu (tK T (odC (shB T (A 7)) (tN T) (cnt (shB T (A 7)) (tN T)) c k)) (brg (tK T (odC (shB T (A 7)) (tN T) (cnt (shB T (A 7)) (tN T)) c k)) (tP T (odC (shB T (A 7)) (tN T) (cnt (shB T (A 7)) (tN T)) c k)) p8 m8 u8))) 15 (nI (cnt (shB T (A 7)) (tN T)))) 16 l9) 17 m9) 18 s9) hh (va_up (va_up (va_up A 12 (odA (whA (shB T (A 7)) (A 14) (tN T)) (cnt (shB T (A 7)) (tN T)) c O9 (cnt (shB T (A 7)) (tN T)))) 13 BO9) 14 (whA (shB T (A 7)) (A 14) (tN T))) ++ tl) rfl rfl rfl ?_
                  exact ih_81 (k + 1) (tP T (odC (shB T (A 7)) (tN T) (cnt (shB T (A 7)) (tN T)) c k)) (brg (tK T (odC (shB T (A 7)) (tN T) (cnt (shB T (A 7)) (tN T)) c k)) (tP T (odC (shB T (A 7)) (tN T) (cnt (shB T (A 7)) (tN T)) c k)) p8 m8 u8) (kpu (tK T (odC (shB T (A 7)) (tN T) (cnt (shB T (A 7)) (tN T)) c k)) (brg (tK T (odC (shB T (A 7)) (tN T) (cnt (shB T (A 7)) (tN T)) c k)) (tP T (odC (shB T (A 7)) (tN T) (cnt (shB T (A 7)) (tN T)) c k)) p8 m8 u8)) (t8 + (ltA (tK T (odC (shB T (A 7)) (tN T) (cnt (shB T (A 7)) (tN T)) c k)) (tL T (odC (shB T (A 7)) (tN T) (cnt (shB T (A 7)) (tN T)) c k)) (tE T (odC (shB T (A 7)) (tN T) (cnt (shB T (A 7)) (tN T)) c k)) (brg (tK T (odC (shB T (A 7)) (tN T) (cnt (shB T (A 7)) (tN T)) c k)) (tP T (odC (shB T (A 7)) (tN T) (cnt (shB T (A 7)) (tN T)) c k)) p8 m8 u8))) (by omega) (by show _ = rnS T (odC (shB T (A 7)) (tN T) (cnt (shB T (A 7)) (tN T)) c k) (rnR T (odC (shB T (A 7)) (tN T) (cnt (shB T (A 7)) (tN T)) c) (x, f 5, y, nI 0) k); rw [← hz]; rfl) ((hO.2 _ (odC_at (w0 := A 14) (O0 := O9) (c := c) (show k < cnt (shB T (A 7)) (tN T) by omega)).2.1).2.1) (by omega)
            refine q_lv [2, 3, 4, 5, 6, 1, 0] (lv' := [(0, .ref (a 32)), (1, .int x), (2, .int y), (3, .int (wb (shB T (A 7)) 6)), (4, .int (nI c)), (5, .int (nI 0)), (6, .int (nI 0))]) rfl ?_
            refine q_to (lv' := [(0, .ref (a 32)), (1, .int x), (2, .int y), (3, .int (wb (shB T (A 7)) 6)), (4, .int (nI c)), (5, .int (nI 0)), (6, .int (nI 0))]) (st' := []) (ws' := mC E a (upd (upd (upd (upd (upd (upd (upd f 8 x) 9 (f 5)) 10 y) 15 (nI (cnt (shB T (A 7)) (tN T)))) 16 l9) 17 m9) 18 s9) hh (va_up (va_up (va_up A 12 (odA (whA (shB T (A 7)) (A 14) (tN T)) (cnt (shB T (A 7)) (tN T)) c O9 (cnt (shB T (A 7)) (tN T)))) 13 BO9) 14 (whA (shB T (A 7)) (A 14) (tN T))) ++ tl) rfl rfl rfl ?_
            exact lb81 (cnt (shB T (A 7)) (tN T) - 0 + 1) 0 x (f 5) y (nI 0) (by omega) (rfl) (hx) (Nat.lt_succ_self _)
  refine q_lv [2, 3, 4, 1, 0] (lv' := [(0, .ref (a 32)), (1, .int x), (2, .int y), (3, .int (wb (shB T (A 7)) 6)), (4, .int (nI 0))]) rfl ?_
  refine q_to (lv' := [(0, .ref (a 32)), (1, .int x), (2, .int y), (3, .int (wb (shB T (A 7)) 6)), (4, .int (nI 0))]) (st' := []) (ws' := mC E a (upd (upd (upd (upd (upd (upd (upd f 8 (f 8)) 9 (f 9)) 10 (f 10)) 15 (nI (cnt (shB T (A 7)) (tN T)))) 16 (-1)) 17 (f 5)) 18 (-1)) hh (va_up (va_up (va_up A 12 (A 12)) 13 (A 13)) 14 (whA (shB T (A 7)) (A 14) (tN T))) ++ tl) rfl rfl (by rfl) ?_
  exact lb31 ((cnt (shB T (A 7)) (tN T)) ^ (cnt (shB T (A 7)) (tN T)) - 0 + 1) 0 (f 8) (f 9) (f 10) (-1) (f 5) (-1) (fun _ => 0) (A 12) (A 13) (by omega) (rfl) (Or.inl rfl) (Nat.lt_succ_self _)
