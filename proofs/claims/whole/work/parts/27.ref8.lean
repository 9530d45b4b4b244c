/-! count, image, restore, open, night -/
theorem inI_out {x : Int32} {lo hi : Nat} (hl : lo < 2 ^ 31) (hh : hi < 2 ^ 31) (h : inI x (nI lo) (nI hi) = false) : x.toInt < (lo : Int) ∨ (hi : Int) < x.toInt := by
  unfold inI at h
  by_cases q : x < nI lo
  · rw [Int32.lt_iff_toInt_lt, nI_toInt hl] at q; exact Or.inl q
  · by_cases q2 : nI hi < x
    · rw [Int32.lt_iff_toInt_lt, nI_toInt hh] at q2; exact Or.inr q2
    · simp [q, q2] at h
def cntM (T : gTown) (f : gF) (A : gA) : Nat → Int32
  | 0 => f 2
  | 1 => smM (A 7) 4 (tN T)
  | 2 => f 3
  | 3 => f 5
  | 4 => f 4
  | 5 => smM (A 7) 6 (tN T)
  | 6 => smM (A 7) 7 (tN T)
  | 7 => f 20
  | 8 => f 1
  | 9 => f 6
  | _ => f 19
def couM (T : gTown) (f : gF) (A : gA) (x : Int32) : Int32 := if inI x (nI 0) (nI 10) then cntM T f A x.toNatClampNeg else (-102)
def imgM (T : gTown) (f : gF) (A : gA) : Int32 × gF × gA := if tN T = 0 then ((-103), f, A) else (f 5, upd (upd (upd (upd (upd f 24 (f 6)) 25 (f 3)) 26 (f 4)) 27 (f 5)) 28 (f 20), va_up (va_up A 29 (A 7)) 30 (A 21))
def rstM (f : gF) (A : gA) : Int32 × gF × gA := if f 24 = f 6 then (f 27, upd (upd (upd (upd f 3 (f 25)) 4 (f 26)) 5 (f 27)) 20 (f 28), va_up (va_up A 7 (A 29)) 21 (A 30)) else ((-103), f, A)
theorem wb_bit06 : ∀ (b0 b1 b2 b3 b4 b5 : Bool) (h : Fin 6), decide ((wb (b6 b0 b1 b2 b3 b4 b5) 6 >>> (nI h.val &&& 31)) &&& nI 1 = 0) = !b6 b0 b1 b2 b3 b4 b5 h.val := by decide +kernel
theorem wb_bit0 (b : Nat → Bool) {h : Nat} (hh : h < 6) : (wb b 6 >>> (nI h &&& 31)) &&& nI 1 = 0 ↔ b h = false := by
  rw [wb_6]
  have e := wb_bit06 (b 0) (b 1) (b 2) (b 3) (b 4) (b 5) ⟨h, hh⟩
  have e2 := b6_eq b hh
  constructor
  · intro q
    have q2 := decide_eq_true q
    rw [e] at q2
    rw [e2]; simpa using q2
  · intro q
    refine of_decide_eq_true ?_
    rw [e, ← e2, q]; rfl
/-- one is opened: the minute, the fields, the rows -/
def opB (T : gTown) (f : gF) (h : Nat) : Int32 := brg (tK T h) (tP T h) (f 3) (f 5) (f 4)
def opF (T : gTown) (f : gF) (h : Nat) : gF := upd (upd (upd f 3 (tP T h)) 4 (kpu (tK T h) (opB T f h))) 5 (opB T f h)
def opR (T : gTown) (f : gF) (r : Nat → Int32) (h : Nat) : Nat → Int32 := upd (upd (upd r (8 * h + 6) (r (8 * h + 6) + ltA (tK T h) (tL T h) (tE T h) (opB T f h))) (8 * h + 4) (-1)) (8 * h + 5) (opB T f h)
def opP (E : gEnv) (a : Nat → Nat) (f : Nat → Int32) (hh : Int64) (A : Nat → Nat → Int32) (tl : va_W) (T : gTown) (x : Int32) (v : Option Value) (w : va_W) : Prop := (hsB (tN T) x = false ∧ v = some (.int (-101)) ∧ w = mC E a f hh A ++ tl) ∨ (∃ h, h < tN T ∧ x = nI h ∧ mayS T (shB T (A 7)) h = false ∧ v = some (.int (-103)) ∧ w = mC E a f hh A ++ tl) ∨ ∃ h, h < tN T ∧ x = nI h ∧ mayS T (shB T (A 7)) h = true ∧ v = some (.int (opB T f h)) ∧ ∃ f' : Nat → Int32, kpF (opF T f h) f' ∧ w = mC E a f' hh (va_up A 7 (opR T f (A 7) h)) ++ tl
/-- night falls, by the reference -/
def ngO (T : gTown) (r : Nat → Int32) (i : Nat) : Int32 := if outB (sF r) i then slp (tK T i) (tE T i) else nI 0
def ngR (T : gTown) (r0 : Nat → Int32) : Nat → Nat → Int32
  | 0 => r0
  | i + 1 => upd (upd (ngR T r0 i) (8 * i + 7) (ngR T r0 i (8 * i + 7) + ngO T (ngR T r0 i) i)) (8 * i + 4) (if outB (sF (ngR T r0 i)) i then nI 0 else (-1))
def ngS (T : gTown) (r0 : Nat → Int32) : Nat → Int32
  | 0 => nI 0
  | i + 1 => ngS T r0 i + ngO T (ngR T r0 i) i
theorem ngR_lo (T : gTown) (r0 : Nat → Int32) {k : Nat} (hk : k % 8 < 4) : ∀ i, ngR T r0 i k = r0 k
  | 0 => rfl
  | i + 1 => by rw [ngR, pk_un (by omega), pk_un (by omega), ngR_lo T r0 hk i]
theorem ngR_rows {T : gTown} {r0 : Nat → Int32} (h : rowsOf r0 T) (i : Nat) : rowsOf (ngR T r0 i) T := fun j hj => by
  rw [ngR_lo T r0 (by omega), ngR_lo T r0 (by omega), ngR_lo T r0 (by omega), ngR_lo T r0 (by omega)]
  exact h j hj
theorem out_7 (r : Nat → Int32) (i : Nat) (v : Int32) : outB (sF (upd r (8 * i + 7) v)) i = outB (sF r) i := by
  unfold outB sF
  rw [pk_un (by omega)]
theorem slp_2 {k : Nat} {n : Int32} (h : k ≠ 2) : slp k n = n := by
  unfold slp
  split
  · exact absurd rfl h
  · rfl
set_option maxHeartbeats 4000000 in
set_option maxRecDepth 100000 in
theorem c_X11_image (l : Launch) (E : gEnv) (a : Nat → Nat) (f : Nat → Int32) (hh : Int64) (A : Nat → Nat → Int32) (tl : va_W) (T : gTown) (hm : f 2 = nI (tN T)) (hn : tN T ≤ 6) : Cn l E yX11_image wsX11_image (rmL 1 0 0) [.ref (a 32)] (mC E a f hh A ++ tl) 0 0 (fun v w => v = some (.int (imgM T f A).1) ∧ w = mC E a ((imgM T f A).2.1) hh ((imgM T f A).2.2) ++ tl) := by
  refine Cn.of (own := RX11) (cc := cX11_image) (maxL := 1) (ret := (some .int)) (lv := [(0, .ref (a 32))]) (by decide) rfl rfl (Nat.le_of_ble_eq_true rfl) rfl ?_
  intro p_ e_ s_ m_ args_ below_ meth_ c_ A_ P_ hp_ F hr_ hnm_
  have hd_X11_lacks : yX11_lacks.cls = RX11 ∧ yX11_lacks.cls ≠ "java/lang/invoke/MethodHandle" ∧ yX11_lacks.cls ≠ "java/lang/invoke/VarHandle" ∧ (parseMethodDescriptor yX11_lacks.desc).map (fun d => d.parameters.length) = some 0 := by decide +kernel
  have hf13_11 : Cond.fieldLink RX11 13 "KeyOnStreetModel" (TX11 7).2.1 (TX11 7).2.2.1 ∈ wsX11_image := by decide +kernel
  have hi11 : ∀ w ∈ u_ws RX11 TX11 32, w ∈ wsX11_image := by decide +kernel
  have hf34_11 : Cond.fieldLink RX11 34 "KeyOnStreetModel" (TX11 29).2.1 (TX11 29).2.2.1 ∈ wsX11_image := by decide +kernel
  have hd_X11_copy : yX11_copy.cls ≠ "java/lang/invoke/MethodHandle" ∧ yX11_copy.cls ≠ "java/lang/invoke/VarHandle" ∧ (parseMethodDescriptor yX11_copy.desc).map (fun d => d.parameters.length) = some 2 := by decide +kernel
  have hf28_11 : Cond.fieldLink RX11 28 "KeyOnStreetModel" (TX11 21).2.1 (TX11 21).2.2.1 ∈ wsX11_image := by decide +kernel
  have hf37_11 : Cond.fieldLink RX11 37 "KeyOnStreetModel" (TX11 30).2.1 (TX11 30).2.2.1 ∈ wsX11_image := by decide +kernel
  have hf70_11 : Cond.fieldLink RX11 70 "KeyOnStreetModel" (TX11 3).2.1 (TX11 3).2.2.1 ∈ wsX11_image := by decide +kernel
  have hf210_11 : Cond.fieldLink RX11 210 "KeyOnStreetModel" (TX11 25).2.1 (TX11 25).2.2.1 ∈ wsX11_image := by decide +kernel
  have hf73_11 : Cond.fieldLink RX11 73 "KeyOnStreetModel" (TX11 4).2.1 (TX11 4).2.2.1 ∈ wsX11_image := by decide +kernel
  have hf213_11 : Cond.fieldLink RX11 213 "KeyOnStreetModel" (TX11 26).2.1 (TX11 26).2.2.1 ∈ wsX11_image := by decide +kernel
  have hf76_11 : Cond.fieldLink RX11 76 "KeyOnStreetModel" (TX11 5).2.1 (TX11 5).2.2.1 ∈ wsX11_image := by decide +kernel
  have hf216_11 : Cond.fieldLink RX11 216 "KeyOnStreetModel" (TX11 27).2.1 (TX11 27).2.2.1 ∈ wsX11_image := by decide +kernel
  have hf79_11 : Cond.fieldLink RX11 79 "KeyOnStreetModel" (TX11 20).2.1 (TX11 20).2.2.1 ∈ wsX11_image := by decide +kernel
  have hf219_11 : Cond.fieldLink RX11 219 "KeyOnStreetModel" (TX11 28).2.1 (TX11 28).2.2.1 ∈ wsX11_image := by decide +kernel
  have hf82_11 : Cond.fieldLink RX11 82 "KeyOnStreetModel" (TX11 6).2.1 (TX11 6).2.2.1 ∈ wsX11_image := by decide +kernel
  have hf40_11 : Cond.fieldLink RX11 40 "KeyOnStreetModel" (TX11 24).2.1 (TX11 24).2.2.1 ∈ wsX11_image := by decide +kernel
  refine q_aload_n F 0 dX11_image_0 rfl ?_
  refine q_callV F (ci := 11) (As := []) (rest := []) (List.mem_append_left _ (List.mem_of_getElem? (i := 0) rfl)) rfl (c_X11_lacks l E a f hh A tl T hm hn ) (List.Perm.refl _) gX11_image_X11_lacks rfl rfl rfl hd_X11_lacks ⟨by decide, by decide⟩ rfl (Nat.le_of_ble_eq_true rfl) dX11_image_1 ⟨Nat.le_of_ble_eq_true rfl, Nat.le_of_ble_eq_true rfl⟩ (fun v_ w_ hvw => ?_)
  rw [hvw.1, hvw.2]
  clear hvw
  refine q_at (pc' := 4) (st' := [.int (bI (decide (tN T = 0)))]) (ws' := mC E a f hh A ++ tl) (k' := 0) (n' := 0) rfl rfl rfl rfl rfl ?_
  refine q_if_eq F (tgt := 10) dX11_image_4 (by decide) (fun h_4 => ?_) (fun h_4 => ?_)
  · skip
    have hb_4 := bI_0 h_4
    refine q_aload_n F 0 dX11_image_10 rfl ?_
    refine q_get F (ci := 11) (j := 7) (v := .ref (a 7)) (List.mem_append_left _ (List.mem_of_getElem? (i := 0) rfl)) rfl hi11 (by decide) hf13_11 rfl rfl dX11_image_11 ?_
    refine q_aload_n F 0 dX11_image_14 rfl ?_
    refine q_get F (ci := 11) (j := 29) (v := .ref (a 29)) (List.mem_append_left _ (List.mem_of_getElem? (i := 0) rfl)) rfl hi11 (by decide) hf34_11 rfl rfl dX11_image_15 ?_
    refine q_callS F (As := [.ref (a 7), .ref (a 29)]) (rest := []) (c_X11_copy_7_29 l E a f hh A tl) (List.Perm.refl _) gX11_image_X11_copy rfl rfl rfl hd_X11_copy ⟨by decide, by decide⟩ rfl (Nat.le_of_ble_eq_true rfl) dX11_image_18 ⟨Nat.le_of_ble_eq_true rfl, Nat.le_of_ble_eq_true rfl⟩ (fun v_ w_ hvw => ?_)
    rw [hvw.1, hvw.2]
    clear hvw
    refine q_at (pc' := 21) (st' := []) (ws' := mC E a f hh (va_up A 29 (A 7)) ++ tl) (k' := 0) (n' := 0) rfl rfl rfl rfl rfl ?_
    refine q_aload_n F 0 dX11_image_21 rfl ?_
    refine q_get F (ci := 11) (j := 21) (v := .ref (a 21)) (List.mem_append_left _ (List.mem_of_getElem? (i := 0) rfl)) rfl hi11 (by decide) hf28_11 rfl rfl dX11_image_22 ?_
    refine q_aload_n F 0 dX11_image_25 rfl ?_
    refine q_get F (ci := 11) (j := 30) (v := .ref (a 30)) (List.mem_append_left _ (List.mem_of_getElem? (i := 0) rfl)) rfl hi11 (by decide) hf37_11 rfl rfl dX11_image_26 ?_
    refine q_callS F (As := [.ref (a 21), .ref (a 30)]) (rest := []) (c_X11_copy_21_30 l E a f hh (va_up A 29 (A 7)) tl) (List.Perm.refl _) gX11_image_X11_copy rfl rfl rfl hd_X11_copy ⟨by decide, by decide⟩ rfl (Nat.le_of_ble_eq_true rfl) dX11_image_29 ⟨Nat.le_of_ble_eq_true rfl, Nat.le_of_ble_eq_true rfl⟩ (fun v_ w_ hvw => ?_)
    rw [hvw.1, hvw.2]
    clear hvw
    refine q_at (pc' := 32) (st' := []) (ws' := mC E a f hh (va_up (va_up A 29 (A 7)) 30 (A 21)) ++ tl) (k' := 0) (n' := 0) rfl rfl rfl rfl rfl ?_
    refine q_aload_n F 0 dX11_image_32 rfl ?_
    refine q_aload_n F 0 dX11_image_33 rfl ?_
    refine q_get F (ci := 11) (j := 3) (v := .int (f 3)) (List.mem_append_left _ (List.mem_of_getElem? (i := 0) rfl)) rfl hi11 (by decide) hf70_11 rfl rfl dX11_image_34 ?_
    refine q_put F (j := 25) 0 rfl rfl hi11 tyX11 tyX11_ok nmX11 (by decide) hf210_11 rfl rfl rfl rfl (Nat.le_of_ble_eq_true rfl) dX11_image_37 (ws' := mC E a (upd f 25 (f 3)) hh (va_up (va_up A 29 (A 7)) 30 (A 21)) ++ tl) rfl ?_
    refine q_aload_n F 0 dX11_image_40 rfl ?_
    refine q_aload_n F 0 dX11_image_41 rfl ?_
    refine q_get F (ci := 11) (j := 4) (v := .int (f 4)) (List.mem_append_left _ (List.mem_of_getElem? (i := 0) rfl)) rfl hi11 (by decide) hf73_11 rfl rfl dX11_image_42 ?_
    refine q_put F (j := 26) 0 rfl rfl hi11 tyX11 tyX11_ok nmX11 (by decide) hf213_11 rfl rfl rfl rfl (Nat.le_of_ble_eq_true rfl) dX11_image_45 (ws' := mC E a (upd (upd f 25 (f 3)) 26 (f 4)) hh (va_up (va_up A 29 (A 7)) 30 (A 21)) ++ tl) rfl ?_
    refine q_aload_n F 0 dX11_image_48 rfl ?_
    refine q_aload_n F 0 dX11_image_49 rfl ?_
    refine q_get F (ci := 11) (j := 5) (v := .int (f 5)) (List.mem_append_left _ (List.mem_of_getElem? (i := 0) rfl)) rfl hi11 (by decide) hf76_11 rfl rfl dX11_image_50 ?_
    refine q_put F (j := 27) 0 rfl rfl hi11 tyX11 tyX11_ok nmX11 (by decide) hf216_11 rfl rfl rfl rfl (Nat.le_of_ble_eq_true rfl) dX11_image_53 (ws' := mC E a (upd (upd (upd f 25 (f 3)) 26 (f 4)) 27 (f 5)) hh (va_up (va_up A 29 (A 7)) 30 (A 21)) ++ tl) rfl ?_
    refine q_aload_n F 0 dX11_image_56 rfl ?_
    refine q_aload_n F 0 dX11_image_57 rfl ?_
    refine q_get F (ci := 11) (j := 20) (v := .int (f 20)) (List.mem_append_left _ (List.mem_of_getElem? (i := 0) rfl)) rfl hi11 (by decide) hf79_11 rfl rfl dX11_image_58 ?_
    refine q_put F (j := 28) 0 rfl rfl hi11 tyX11 tyX11_ok nmX11 (by decide) hf219_11 rfl rfl rfl rfl (Nat.le_of_ble_eq_true rfl) dX11_image_61 (ws' := mC E a (upd (upd (upd (upd f 25 (f 3)) 26 (f 4)) 27 (f 5)) 28 (f 20)) hh (va_up (va_up A 29 (A 7)) 30 (A 21)) ++ tl) rfl ?_
    refine q_aload_n F 0 dX11_image_64 rfl ?_
    refine q_aload_n F 0 dX11_image_65 rfl ?_
    refine q_get F (ci := 11) (j := 6) (v := .int (f 6)) (List.mem_append_left _ (List.mem_of_getElem? (i := 0) rfl)) rfl hi11 (by decide) hf82_11 rfl rfl dX11_image_66 ?_
    refine q_put F (j := 24) 0 rfl rfl hi11 tyX11 tyX11_ok nmX11 (by decide) hf40_11 rfl rfl rfl rfl (Nat.le_of_ble_eq_true rfl) dX11_image_69 (ws' := mC E a (upd (upd (upd (upd (upd f 24 (f 6)) 25 (f 3)) 26 (f 4)) 27 (f 5)) 28 (f 20)) hh (va_up (va_up A 29 (A 7)) 30 (A 21)) ++ tl) rfl ?_
    refine q_aload_n F 0 dX11_image_72 rfl ?_
    refine q_get F (ci := 11) (j := 5) (v := .int (f 5)) (List.mem_append_left _ (List.mem_of_getElem? (i := 0) rfl)) rfl hi11 (by decide) hf76_11 rfl rfl dX11_image_73 ?_
    refine q_iret F hr_ dX11_image_76 (hp_ _ _ ⟨congrArg (fun z => some (Value.int z)) ?_, ?_⟩)
    · simp_all [imgM]
    · simp_all [imgM]; try rfl
  · skip
    have hb_4 := bI_1 h_4
    refine q_bipush F dX11_image_7 (v := (-103)) (by decide) ?_
    refine q_iret F hr_ dX11_image_9 (hp_ _ _ ⟨congrArg (fun z => some (Value.int z)) ?_, ?_⟩)
    · simp_all [imgM]
    · simp_all [imgM]; try rfl

set_option maxHeartbeats 4000000 in
set_option maxRecDepth 100000 in
theorem c_X11_restore (l : Launch) (E : gEnv) (a : Nat → Nat) (f : Nat → Int32) (hh : Int64) (A : Nat → Nat → Int32) (tl : va_W) : Cn l E yX11_restore wsX11_restore (rmL 1 0 0) [.ref (a 32)] (mC E a f hh A ++ tl) 0 0 (fun v w => v = some (.int (rstM f A).1) ∧ w = mC E a ((rstM f A).2.1) hh ((rstM f A).2.2) ++ tl) := by
  refine Cn.of (own := RX11) (cc := cX11_restore) (maxL := 1) (ret := (some .int)) (lv := [(0, .ref (a 32))]) (by decide) rfl rfl (Nat.le_of_ble_eq_true rfl) rfl ?_
  intro p_ e_ s_ m_ args_ below_ meth_ c_ A_ P_ hp_ F hr_ hnm_
  have hf40_11 : Cond.fieldLink RX11 40 "KeyOnStreetModel" (TX11 24).2.1 (TX11 24).2.2.1 ∈ wsX11_restore := by decide +kernel
  have hi11 : ∀ w ∈ u_ws RX11 TX11 32, w ∈ wsX11_restore := by decide +kernel
  have hf82_11 : Cond.fieldLink RX11 82 "KeyOnStreetModel" (TX11 6).2.1 (TX11 6).2.2.1 ∈ wsX11_restore := by decide +kernel
  have hf34_11 : Cond.fieldLink RX11 34 "KeyOnStreetModel" (TX11 29).2.1 (TX11 29).2.2.1 ∈ wsX11_restore := by decide +kernel
  have hf13_11 : Cond.fieldLink RX11 13 "KeyOnStreetModel" (TX11 7).2.1 (TX11 7).2.2.1 ∈ wsX11_restore := by decide +kernel
  have hd_X11_copy : yX11_copy.cls ≠ "java/lang/invoke/MethodHandle" ∧ yX11_copy.cls ≠ "java/lang/invoke/VarHandle" ∧ (parseMethodDescriptor yX11_copy.desc).map (fun d => d.parameters.length) = some 2 := by decide +kernel
  have hf37_11 : Cond.fieldLink RX11 37 "KeyOnStreetModel" (TX11 30).2.1 (TX11 30).2.2.1 ∈ wsX11_restore := by decide +kernel
  have hf28_11 : Cond.fieldLink RX11 28 "KeyOnStreetModel" (TX11 21).2.1 (TX11 21).2.2.1 ∈ wsX11_restore := by decide +kernel
  have hf210_11 : Cond.fieldLink RX11 210 "KeyOnStreetModel" (TX11 25).2.1 (TX11 25).2.2.1 ∈ wsX11_restore := by decide +kernel
  have hf70_11 : Cond.fieldLink RX11 70 "KeyOnStreetModel" (TX11 3).2.1 (TX11 3).2.2.1 ∈ wsX11_restore := by decide +kernel
  have hf213_11 : Cond.fieldLink RX11 213 "KeyOnStreetModel" (TX11 26).2.1 (TX11 26).2.2.1 ∈ wsX11_restore := by decide +kernel
  have hf73_11 : Cond.fieldLink RX11 73 "KeyOnStreetModel" (TX11 4).2.1 (TX11 4).2.2.1 ∈ wsX11_restore := by decide +kernel
  have hf216_11 : Cond.fieldLink RX11 216 "KeyOnStreetModel" (TX11 27).2.1 (TX11 27).2.2.1 ∈ wsX11_restore := by decide +kernel
  have hf76_11 : Cond.fieldLink RX11 76 "KeyOnStreetModel" (TX11 5).2.1 (TX11 5).2.2.1 ∈ wsX11_restore := by decide +kernel
  have hf219_11 : Cond.fieldLink RX11 219 "KeyOnStreetModel" (TX11 28).2.1 (TX11 28).2.2.1 ∈ wsX11_restore := by decide +kernel
  have hf79_11 : Cond.fieldLink RX11 79 "KeyOnStreetModel" (TX11 20).2.1 (TX11 20).2.2.1 ∈ wsX11_restore := by decide +kernel
  refine q_aload_n F 0 dX11_restore_0 rfl ?_
  refine q_get F (ci := 11) (j := 24) (v := .int (f 24)) (List.mem_append_left _ (List.mem_of_getElem? (i := 0) rfl)) rfl hi11 (by decide) hf40_11 rfl rfl dX11_restore_1 ?_
  refine q_aload_n F 0 dX11_restore_4 rfl ?_
  refine q_get F (ci := 11) (j := 6) (v := .int (f 6)) (List.mem_append_left _ (List.mem_of_getElem? (i := 0) rfl)) rfl hi11 (by decide) hf82_11 rfl rfl dX11_restore_5 ?_
  refine q_icmp_eq F (tgt := 14) dX11_restore_8 (by decide) (fun h_8 => ?_) (fun h_8 => ?_)
  · skip
    refine q_aload_n F 0 dX11_restore_14 rfl ?_
    refine q_get F (ci := 11) (j := 29) (v := .ref (a 29)) (List.mem_append_left _ (List.mem_of_getElem? (i := 0) rfl)) rfl hi11 (by decide) hf34_11 rfl rfl dX11_restore_15 ?_
    refine q_aload_n F 0 dX11_restore_18 rfl ?_
    refine q_get F (ci := 11) (j := 7) (v := .ref (a 7)) (List.mem_append_left _ (List.mem_of_getElem? (i := 0) rfl)) rfl hi11 (by decide) hf13_11 rfl rfl dX11_restore_19 ?_
    refine q_callS F (As := [.ref (a 29), .ref (a 7)]) (rest := []) (c_X11_copy_29_7 l E a f hh A tl) (List.Perm.refl _) gX11_restore_X11_copy rfl rfl rfl hd_X11_copy ⟨by decide, by decide⟩ rfl (Nat.le_of_ble_eq_true rfl) dX11_restore_22 ⟨Nat.le_of_ble_eq_true rfl, Nat.le_of_ble_eq_true rfl⟩ (fun v_ w_ hvw => ?_)
    rw [hvw.1, hvw.2]
    clear hvw
    refine q_at (pc' := 25) (st' := []) (ws' := mC E a f hh (va_up A 7 (A 29)) ++ tl) (k' := 0) (n' := 0) rfl rfl rfl rfl rfl ?_
    refine q_aload_n F 0 dX11_restore_25 rfl ?_
    refine q_get F (ci := 11) (j := 30) (v := .ref (a 30)) (List.mem_append_left _ (List.mem_of_getElem? (i := 0) rfl)) rfl hi11 (by decide) hf37_11 rfl rfl dX11_restore_26 ?_
    refine q_aload_n F 0 dX11_restore_29 rfl ?_
    refine q_get F (ci := 11) (j := 21) (v := .ref (a 21)) (List.mem_append_left _ (List.mem_of_getElem? (i := 0) rfl)) rfl hi11 (by decide) hf28_11 rfl rfl dX11_restore_30 ?_
    refine q_callS F (As := [.ref (a 30), .ref (a 21)]) (rest := []) (c_X11_copy_30_21 l E a f hh (va_up A 7 (A 29)) tl) (List.Perm.refl _) gX11_restore_X11_copy rfl rfl rfl hd_X11_copy ⟨by decide, by decide⟩ rfl (Nat.le_of_ble_eq_true rfl) dX11_restore_33 ⟨Nat.le_of_ble_eq_true rfl, Nat.le_of_ble_eq_true rfl⟩ (fun v_ w_ hvw => ?_)
    rw [hvw.1, hvw.2]
    clear hvw
    refine q_at (pc' := 36) (st' := []) (ws' := mC E a f hh (va_up (va_up A 7 (A 29)) 21 (A 30)) ++ tl) (k' := 0) (n' := 0) rfl rfl rfl rfl rfl ?_
    refine q_aload_n F 0 dX11_restore_36 rfl ?_
    refine q_aload_n F 0 dX11_restore_37 rfl ?_
    refine q_get F (ci := 11) (j := 25) (v := .int (f 25)) (List.mem_append_left _ (List.mem_of_getElem? (i := 0) rfl)) rfl hi11 (by decide) hf210_11 rfl rfl dX11_restore_38 ?_
    refine q_put F (j := 3) 0 rfl rfl hi11 tyX11 tyX11_ok nmX11 (by decide) hf70_11 rfl rfl rfl rfl (Nat.le_of_ble_eq_true rfl) dX11_restore_41 (ws' := mC E a (upd f 3 (f 25)) hh (va_up (va_up A 7 (A 29)) 21 (A 30)) ++ tl) rfl ?_
    refine q_aload_n F 0 dX11_restore_44 rfl ?_
    refine q_aload_n F 0 dX11_restore_45 rfl ?_
    refine q_get F (ci := 11) (j := 26) (v := .int (f 26)) (List.mem_append_left _ (List.mem_of_getElem? (i := 0) rfl)) rfl hi11 (by decide) hf213_11 rfl rfl dX11_restore_46 ?_
    refine q_put F (j := 4) 0 rfl rfl hi11 tyX11 tyX11_ok nmX11 (by decide) hf73_11 rfl rfl rfl rfl (Nat.le_of_ble_eq_true rfl) dX11_restore_49 (ws' := mC E a (upd (upd f 3 (f 25)) 4 (f 26)) hh (va_up (va_up A 7 (A 29)) 21 (A 30)) ++ tl) rfl ?_
    refine q_aload_n F 0 dX11_restore_52 rfl ?_
    refine q_aload_n F 0 dX11_restore_53 rfl ?_
    refine q_get F (ci := 11) (j := 27) (v := .int (f 27)) (List.mem_append_left _ (List.mem_of_getElem? (i := 0) rfl)) rfl hi11 (by decide) hf216_11 rfl rfl dX11_restore_54 ?_
    refine q_put F (j := 5) 0 rfl rfl hi11 tyX11 tyX11_ok nmX11 (by decide) hf76_11 rfl rfl rfl rfl (Nat.le_of_ble_eq_true rfl) dX11_restore_57 (ws' := mC E a (upd (upd (upd f 3 (f 25)) 4 (f 26)) 5 (f 27)) hh (va_up (va_up A 7 (A 29)) 21 (A 30)) ++ tl) rfl ?_
    refine q_aload_n F 0 dX11_restore_60 rfl ?_
    refine q_aload_n F 0 dX11_restore_61 rfl ?_
    refine q_get F (ci := 11) (j := 28) (v := .int (f 28)) (List.mem_append_left _ (List.mem_of_getElem? (i := 0) rfl)) rfl hi11 (by decide) hf219_11 rfl rfl dX11_restore_62 ?_
    refine q_put F (j := 20) 0 rfl rfl hi11 tyX11 tyX11_ok nmX11 (by decide) hf79_11 rfl rfl rfl rfl (Nat.le_of_ble_eq_true rfl) dX11_restore_65 (ws' := mC E a (upd (upd (upd (upd f 3 (f 25)) 4 (f 26)) 5 (f 27)) 20 (f 28)) hh (va_up (va_up A 7 (A 29)) 21 (A 30)) ++ tl) rfl ?_
    refine q_aload_n F 0 dX11_restore_68 rfl ?_
    refine q_get F (ci := 11) (j := 5) (v := .int (f 27)) (List.mem_append_left _ (List.mem_of_getElem? (i := 0) rfl)) rfl hi11 (by decide) hf76_11 rfl rfl dX11_restore_69 ?_
    refine q_iret F hr_ dX11_restore_72 (hp_ _ _ ⟨congrArg (fun z => some (Value.int z)) ?_, ?_⟩)
    · simp_all [rstM]
    · simp_all [rstM]; try rfl
  · skip
    refine q_bipush F dX11_restore_11 (v := (-103)) (by decide) ?_
    refine q_iret F hr_ dX11_restore_13 (hp_ _ _ ⟨congrArg (fun z => some (Value.int z)) ?_, ?_⟩)
    · simp_all [rstM]
    · simp_all [rstM]; try rfl

set_option maxHeartbeats 4000000 in
set_option maxRecDepth 100000 in
theorem c_X11_countOf (l : Launch) (E : gEnv) (a : Nat → Nat) (f : Nat → Int32) (hh : Int64) (A : Nat → Nat → Int32) (tl : va_W) (T : gTown) (hm : f 2 = nI (tN T)) (hn : tN T ≤ 6) (x : Int32) : Cn l E yX11_countOf wsX11_countOf (rmL 2 0 0) [.ref (a 32), .int x] (mC E a f hh A ++ tl) 0 0 (fun v w => v = some (.int (couM T f A x)) ∧ w = mC E a f hh A ++ tl) := by
  refine Cn.of (own := RX11) (cc := cX11_countOf) (maxL := 2) (ret := (some .int)) (lv := [(0, .ref (a 32)), (1, .int x)]) (by decide) rfl rfl (Nat.le_of_ble_eq_true rfl) rfl ?_
  intro p_ e_ s_ m_ args_ below_ meth_ c_ A_ P_ hp_ F hr_ hnm_
  have hf67_11 : Cond.fieldLink RX11 67 "KeyOnStreetModel" (TX11 2).2.1 (TX11 2).2.2.1 ∈ wsX11_countOf := by decide +kernel
  have hi11 : ∀ w ∈ u_ws RX11 TX11 32, w ∈ wsX11_countOf := by decide +kernel
  have hd_X11_sumOf : yX11_sumOf.cls = RX11 ∧ yX11_sumOf.cls ≠ "java/lang/invoke/MethodHandle" ∧ yX11_sumOf.cls ≠ "java/lang/invoke/VarHandle" ∧ (parseMethodDescriptor yX11_sumOf.desc).map (fun d => d.parameters.length) = some 1 := by decide +kernel
  have hf70_11 : Cond.fieldLink RX11 70 "KeyOnStreetModel" (TX11 3).2.1 (TX11 3).2.2.1 ∈ wsX11_countOf := by decide +kernel
  have hf76_11 : Cond.fieldLink RX11 76 "KeyOnStreetModel" (TX11 5).2.1 (TX11 5).2.2.1 ∈ wsX11_countOf := by decide +kernel
  have hf73_11 : Cond.fieldLink RX11 73 "KeyOnStreetModel" (TX11 4).2.1 (TX11 4).2.2.1 ∈ wsX11_countOf := by decide +kernel
  have hf79_11 : Cond.fieldLink RX11 79 "KeyOnStreetModel" (TX11 20).2.1 (TX11 20).2.2.1 ∈ wsX11_countOf := by decide +kernel
  have hf50_11 : Cond.fieldLink RX11 50 "KeyOnStreetModel" (TX11 1).2.1 (TX11 1).2.2.1 ∈ wsX11_countOf := by decide +kernel
  have hf82_11 : Cond.fieldLink RX11 82 "KeyOnStreetModel" (TX11 6).2.1 (TX11 6).2.2.1 ∈ wsX11_countOf := by decide +kernel
  have hf184_11 : Cond.fieldLink RX11 184 "KeyOnStreetModel" (TX11 19).2.1 (TX11 19).2.2.1 ∈ wsX11_countOf := by decide +kernel
  refine q_iload_n F 1 dX11_countOf_0 rfl ?_
  by_cases hx : inI x (nI 0) (nI 10) = true
  · skip
    obtain ⟨j, -, hj, rfl⟩ := inI_nat (by decide) (by decide) hx
    rcases (show j = 0 ∨ j = 1 ∨ j = 2 ∨ j = 3 ∨ j = 4 ∨ j = 5 ∨ j = 6 ∨ j = 7 ∨ j = 8 ∨ j = 9 ∨ j = 10 by omega) with rfl | rfl | rfl | rfl | rfl | rfl | rfl | rfl | rfl | rfl | rfl
    · skip
      refine q_tableIn F (off := 59) (tgt := 60) dX11_countOf_1 (by decide) (by decide) (by decide) (by decide) ?_
      refine q_aload_n F 0 dX11_countOf_60 rfl ?_
      refine q_get F (ci := 11) (j := 2) (v := .int (f 2)) (List.mem_append_left _ (List.mem_of_getElem? (i := 0) rfl)) rfl hi11 (by decide) hf67_11 rfl rfl dX11_countOf_61 ?_
      refine q_toi (nI (tN T)) (hm) ?_
      refine q_iret F hr_ dX11_countOf_64 (hp_ _ _ ⟨congrArg (fun z => some (Value.int z)) ?_, ?_⟩)
      · rw [couM, if_pos hx, nI_clamp (by decide)]; exact hm.symm
      · rfl
    · skip
      refine q_tableIn F (off := 64) (tgt := 65) dX11_countOf_1 (by decide) (by decide) (by decide) (by decide) ?_
      refine q_aload_n F 0 dX11_countOf_65 rfl ?_
      refine q_iconst F dX11_countOf_66 (v := nI 4) (by decide) ?_
      refine q_callV F (ci := 11) (As := [.int (nI 4)]) (rest := []) (List.mem_append_left _ (List.mem_of_getElem? (i := 0) rfl)) rfl (c_X11_sumOf l E a f hh A tl T hm hn 4 (by decide)) (List.Perm.refl _) gX11_countOf_X11_sumOf rfl rfl rfl hd_X11_sumOf ⟨by decide, by decide⟩ rfl (Nat.le_of_ble_eq_true rfl) dX11_countOf_67 ⟨Nat.le_of_ble_eq_true rfl, Nat.le_of_ble_eq_true rfl⟩ (fun v_ w_ hvw => ?_)
      rw [hvw.1, hvw.2]
      clear hvw
      refine q_at (pc' := 70) (st' := [.int (smM (A 7) 4 (tN T))]) (ws' := mC E a f hh A ++ tl) (k' := 0) (n' := 0) rfl rfl rfl rfl rfl ?_
      refine q_iret F hr_ dX11_countOf_70 (hp_ _ _ ⟨congrArg (fun z => some (Value.int z)) ?_, ?_⟩)
      · rw [couM, if_pos hx, nI_clamp (by decide)]; rfl
      · rfl
    · skip
      refine q_tableIn F (off := 70) (tgt := 71) dX11_countOf_1 (by decide) (by decide) (by decide) (by decide) ?_
      refine q_aload_n F 0 dX11_countOf_71 rfl ?_
      refine q_get F (ci := 11) (j := 3) (v := .int (f 3)) (List.mem_append_left _ (List.mem_of_getElem? (i := 0) rfl)) rfl hi11 (by decide) hf70_11 rfl rfl dX11_countOf_72 ?_
      refine q_iret F hr_ dX11_countOf_75 (hp_ _ _ ⟨congrArg (fun z => some (Value.int z)) ?_, ?_⟩)
      · rw [couM, if_pos hx, nI_clamp (by decide)]; rfl
      · rfl
    · skip
      refine q_tableIn F (off := 75) (tgt := 76) dX11_countOf_1 (by decide) (by decide) (by decide) (by decide) ?_
      refine q_aload_n F 0 dX11_countOf_76 rfl ?_
      refine q_get F (ci := 11) (j := 5) (v := .int (f 5)) (List.mem_append_left _ (List.mem_of_getElem? (i := 0) rfl)) rfl hi11 (by decide) hf76_11 rfl rfl dX11_countOf_77 ?_
      refine q_iret F hr_ dX11_countOf_80 (hp_ _ _ ⟨congrArg (fun z => some (Value.int z)) ?_, ?_⟩)
      · rw [couM, if_pos hx, nI_clamp (by decide)]; rfl
      · rfl
    · skip
      refine q_tableIn F (off := 80) (tgt := 81) dX11_countOf_1 (by decide) (by decide) (by decide) (by decide) ?_
      refine q_aload_n F 0 dX11_countOf_81 rfl ?_
      refine q_get F (ci := 11) (j := 4) (v := .int (f 4)) (List.mem_append_left _ (List.mem_of_getElem? (i := 0) rfl)) rfl hi11 (by decide) hf73_11 rfl rfl dX11_countOf_82 ?_
      refine q_iret F hr_ dX11_countOf_85 (hp_ _ _ ⟨congrArg (fun z => some (Value.int z)) ?_, ?_⟩)
      · rw [couM, if_pos hx, nI_clamp (by decide)]; rfl
      · rfl
    · skip
      refine q_tableIn F (off := 85) (tgt := 86) dX11_countOf_1 (by decide) (by decide) (by decide) (by decide) ?_
      refine q_aload_n F 0 dX11_countOf_86 rfl ?_
      refine q_bipush F dX11_countOf_87 (v := nI 6) (by decide) ?_
      refine q_callV F (ci := 11) (As := [.int (nI 6)]) (rest := []) (List.mem_append_left _ (List.mem_of_getElem? (i := 0) rfl)) rfl (c_X11_sumOf l E a f hh A tl T hm hn 6 (by decide)) (List.Perm.refl _) gX11_countOf_X11_sumOf rfl rfl rfl hd_X11_sumOf ⟨by decide, by decide⟩ rfl (Nat.le_of_ble_eq_true rfl) dX11_countOf_89 ⟨Nat.le_of_ble_eq_true rfl, Nat.le_of_ble_eq_true rfl⟩ (fun v_ w_ hvw => ?_)
      rw [hvw.1, hvw.2]
      clear hvw
      refine q_at (pc' := 92) (st' := [.int (smM (A 7) 6 (tN T))]) (ws' := mC E a f hh A ++ tl) (k' := 0) (n' := 0) rfl rfl rfl rfl rfl ?_
      refine q_iret F hr_ dX11_countOf_92 (hp_ _ _ ⟨congrArg (fun z => some (Value.int z)) ?_, ?_⟩)
      · rw [couM, if_pos hx, nI_clamp (by decide)]; rfl
      · rfl
    · skip
      refine q_tableIn F (off := 92) (tgt := 93) dX11_countOf_1 (by decide) (by decide) (by decide) (by decide) ?_
      refine q_aload_n F 0 dX11_countOf_93 rfl ?_
      refine q_bipush F dX11_countOf_94 (v := nI 7) (by decide) ?_
      refine q_callV F (ci := 11) (As := [.int (nI 7)]) (rest := []) (List.mem_append_left _ (List.mem_of_getElem? (i := 0) rfl)) rfl (c_X11_sumOf l E a f hh A tl T hm hn 7 (by decide)) (List.Perm.refl _) gX11_countOf_X11_sumOf rfl rfl rfl hd_X11_sumOf ⟨by decide, by decide⟩ rfl (Nat.le_of_ble_eq_true rfl) dX11_countOf_96 ⟨Nat.le_of_ble_eq_true rfl, Nat.le_of_ble_eq_true rfl⟩ (fun v_ w_ hvw => ?_)
      rw [hvw.1, hvw.2]
      clear hvw
      refine q_at (pc' := 99) (st' := [.int (smM (A 7) 7 (tN T))]) (ws' := mC E a f hh A ++ tl) (k' := 0) (n' := 0) rfl rfl rfl rfl rfl ?_
      refine q_iret F hr_ dX11_countOf_99 (hp_ _ _ ⟨congrArg (fun z => some (Value.int z)) ?_, ?_⟩)
      · rw [couM, if_pos hx, nI_clamp (by decide)]; rfl
      · rfl
    · skip
      refine q_tableIn F (off := 99) (tgt := 100) dX11_countOf_1 (by decide) (by decide) (by decide) (by decide) ?_
      refine q_aload_n F 0 dX11_countOf_100 rfl ?_
      refine q_get F (ci := 11) (j := 20) (v := .int (f 20)) (List.mem_append_left _ (List.mem_of_getElem? (i := 0) rfl)) rfl hi11 (by decide) hf79_11 rfl rfl dX11_countOf_101 ?_
      refine q_iret F hr_ dX11_countOf_104 (hp_ _ _ ⟨congrArg (fun z => some (Value.int z)) ?_, ?_⟩)
      · rw [couM, if_pos hx, nI_clamp (by decide)]; rfl
      · rfl
    · skip
      refine q_tableIn F (off := 104) (tgt := 105) dX11_countOf_1 (by decide) (by decide) (by decide) (by decide) ?_
      refine q_aload_n F 0 dX11_countOf_105 rfl ?_
      refine q_get F (ci := 11) (j := 1) (v := .int (f 1)) (List.mem_append_left _ (List.mem_of_getElem? (i := 0) rfl)) rfl hi11 (by decide) hf50_11 rfl rfl dX11_countOf_106 ?_
      refine q_iret F hr_ dX11_countOf_109 (hp_ _ _ ⟨congrArg (fun z => some (Value.int z)) ?_, ?_⟩)
      · rw [couM, if_pos hx, nI_clamp (by decide)]; rfl
      · rfl
    · skip
      refine q_tableIn F (off := 109) (tgt := 110) dX11_countOf_1 (by decide) (by decide) (by decide) (by decide) ?_
      refine q_aload_n F 0 dX11_countOf_110 rfl ?_
      refine q_get F (ci := 11) (j := 6) (v := .int (f 6)) (List.mem_append_left _ (List.mem_of_getElem? (i := 0) rfl)) rfl hi11 (by decide) hf82_11 rfl rfl dX11_countOf_111 ?_
      refine q_iret F hr_ dX11_countOf_114 (hp_ _ _ ⟨congrArg (fun z => some (Value.int z)) ?_, ?_⟩)
      · rw [couM, if_pos hx, nI_clamp (by decide)]; rfl
      · rfl
    · skip
      refine q_tableIn F (off := 114) (tgt := 115) dX11_countOf_1 (by decide) (by decide) (by decide) (by decide) ?_
      refine q_aload_n F 0 dX11_countOf_115 rfl ?_
      refine q_get F (ci := 11) (j := 19) (v := .int (f 19)) (List.mem_append_left _ (List.mem_of_getElem? (i := 0) rfl)) rfl hi11 (by decide) hf184_11 rfl rfl dX11_countOf_116 ?_
      refine q_iret F hr_ dX11_countOf_119 (hp_ _ _ ⟨congrArg (fun z => some (Value.int z)) ?_, ?_⟩)
      · rw [couM, if_pos hx, nI_clamp (by decide)]; rfl
      · rfl
  · skip
    have hxf : inI x (nI 0) (nI 10) = false := by simpa using hx
    refine q_tableOut F (tgt := 120) dX11_countOf_1 (inI_out (lo := 0) (hi := 10) (by decide) (by decide) hxf) (by decide) ?_
    refine q_bipush F dX11_countOf_120 (v := (-102)) (by decide) ?_
    refine q_iret F hr_ dX11_countOf_122 (hp_ _ _ ⟨congrArg (fun z => some (Value.int z)) ?_, ?_⟩)
    · rw [couM, hxf]; rfl
    · rfl

set_option maxHeartbeats 4000000 in
set_option maxRecDepth 100000 in
theorem c_X11_count (l : Launch) (E : gEnv) (a : Nat → Nat) (f : Nat → Int32) (hh : Int64) (A : Nat → Nat → Int32) (tl : va_W) (T : gTown) (hm : f 2 = nI (tN T)) (hn : tN T ≤ 6) (x : Int32) : Cn l E yX11_count wsX11_count (rmL 3 0 0) [.ref (a 32), .int x] (mC E a f hh A ++ tl) 0 0 (fun v w => v = some (.int (couM T f A x)) ∧ w = mC E a f hh A ++ tl) := by
  refine Cn.of (own := RX11) (cc := cX11_count) (maxL := 2) (ret := (some .int)) (lv := [(0, .ref (a 32)), (1, .int x)]) (by decide) rfl rfl (Nat.le_of_ble_eq_true rfl) rfl ?_
  intro p_ e_ s_ m_ args_ below_ meth_ c_ A_ P_ hp_ F hr_ hnm_
  have hd_X11_countOf : yX11_countOf.cls = RX11 ∧ yX11_countOf.cls ≠ "java/lang/invoke/MethodHandle" ∧ yX11_countOf.cls ≠ "java/lang/invoke/VarHandle" ∧ (parseMethodDescriptor yX11_countOf.desc).map (fun d => d.parameters.length) = some 1 := by decide +kernel
  refine q_aload_n F 0 dX11_count_0 rfl ?_
  refine q_iload_n F 1 dX11_count_1 rfl ?_
  refine q_callV F (ci := 11) (As := [.int x]) (rest := []) (List.mem_append_left _ (List.mem_of_getElem? (i := 0) rfl)) rfl (c_X11_countOf l E a f hh A tl T hm hn x) (List.Perm.refl _) gX11_count_X11_countOf rfl rfl rfl hd_X11_countOf ⟨by decide, by decide⟩ rfl (Nat.le_of_ble_eq_true rfl) dX11_count_2 ⟨Nat.le_of_ble_eq_true rfl, Nat.le_of_ble_eq_true rfl⟩ (fun v_ w_ hvw => ?_)
  rw [hvw.1, hvw.2]
  clear hvw
  refine q_at (pc' := 5) (st' := [.int (couM T f A x)]) (ws' := mC E a f hh A ++ tl) (k' := 0) (n' := 0) rfl rfl rfl rfl rfl ?_
  refine q_iret F hr_ dX11_count_5 (hp_ _ _ ⟨congrArg (fun z => some (Value.int z)) ?_, ?_⟩)
  · first | rfl | simp_all
  · rfl

set_option maxHeartbeats 4000000 in
set_option maxRecDepth 100000 in
theorem c_X11_open (l : Launch) (E : gEnv) (a : Nat → Nat) (f : Nat → Int32) (hh : Int64) (A : Nat → Nat → Int32) (tl : va_W) (T : gTown) (hm : f 2 = nI (tN T)) (hn : tN T ≤ 6) (hR : rowsOf (A 7) T) (hO : okT T) (hp3 : okP (f 3)) (x : Int32) : Cn l E yX11_open wsX11_open (rmL 2 0 0) [.ref (a 32), .int x] (mC E a f hh A ++ tl) 0 0 (opP E a f hh A tl T x) := by
  refine Cn.of (own := RX11) (cc := cX11_open) (maxL := 2) (ret := (some .int)) (lv := [(0, .ref (a 32)), (1, .int x)]) (by decide) rfl rfl (Nat.le_of_ble_eq_true rfl) rfl ?_
  intro p_ e_ s_ m_ args_ below_ meth_ c_ A_ P_ hp_ F hr_ hnm_
  have hd_X11_isHouse : yX11_isHouse.cls = RX11 ∧ yX11_isHouse.cls ≠ "java/lang/invoke/MethodHandle" ∧ yX11_isHouse.cls ≠ "java/lang/invoke/VarHandle" ∧ (parseMethodDescriptor yX11_isHouse.desc).map (fun d => d.parameters.length) = some 1 := by decide +kernel
  have hd_X11_shutBits : yX11_shutBits.cls = RX11 ∧ yX11_shutBits.cls ≠ "java/lang/invoke/MethodHandle" ∧ yX11_shutBits.cls ≠ "java/lang/invoke/VarHandle" ∧ (parseMethodDescriptor yX11_shutBits.desc).map (fun d => d.parameters.length) = some 0 := by decide +kernel
  have hd_X11_mayOpen : yX11_mayOpen.cls = RX11 ∧ yX11_mayOpen.cls ≠ "java/lang/invoke/MethodHandle" ∧ yX11_mayOpen.cls ≠ "java/lang/invoke/VarHandle" ∧ (parseMethodDescriptor yX11_mayOpen.desc).map (fun d => d.parameters.length) = some 1 := by decide +kernel
  have hd_X11_asItIs : yX11_asItIs.cls = RX11 ∧ yX11_asItIs.cls ≠ "java/lang/invoke/MethodHandle" ∧ yX11_asItIs.cls ≠ "java/lang/invoke/VarHandle" ∧ (parseMethodDescriptor yX11_asItIs.desc).map (fun d => d.parameters.length) = some 0 := by decide +kernel
  have hf13_11 : Cond.fieldLink RX11 13 "KeyOnStreetModel" (TX11 7).2.1 (TX11 7).2.2.1 ∈ wsX11_open := by decide +kernel
  have hi11 : ∀ w ∈ u_ws RX11 TX11 32, w ∈ wsX11_open := by decide +kernel
  have hd_X11_opens : yX11_opens.cls = RX11 ∧ yX11_opens.cls ≠ "java/lang/invoke/MethodHandle" ∧ yX11_opens.cls ≠ "java/lang/invoke/VarHandle" ∧ (parseMethodDescriptor yX11_opens.desc).map (fun d => d.parameters.length) = some 1 := by decide +kernel
  have hf105_11 : Cond.fieldLink RX11 105 "KeyOnStreetModel" (TX11 9).2.1 (TX11 9).2.2.1 ∈ wsX11_open := by decide +kernel
  have hf102_11 : Cond.fieldLink RX11 102 "KeyOnStreetModel" (TX11 8).2.1 (TX11 8).2.2.1 ∈ wsX11_open := by decide +kernel
  have hf70_11 : Cond.fieldLink RX11 70 "KeyOnStreetModel" (TX11 3).2.1 (TX11 3).2.2.1 ∈ wsX11_open := by decide +kernel
  have hf108_11 : Cond.fieldLink RX11 108 "KeyOnStreetModel" (TX11 10).2.1 (TX11 10).2.2.1 ∈ wsX11_open := by decide +kernel
  have hf73_11 : Cond.fieldLink RX11 73 "KeyOnStreetModel" (TX11 4).2.1 (TX11 4).2.2.1 ∈ wsX11_open := by decide +kernel
  have hf76_11 : Cond.fieldLink RX11 76 "KeyOnStreetModel" (TX11 5).2.1 (TX11 5).2.2.1 ∈ wsX11_open := by decide +kernel
  refine q_aload_n F 0 dX11_open_0 rfl ?_
  refine q_iload_n F 1 dX11_open_1 rfl ?_
  refine q_callV F (ci := 11) (As := [.int x]) (rest := []) (List.mem_append_left _ (List.mem_of_getElem? (i := 0) rfl)) rfl (c_X11_isHouse l E a f hh A tl T hm hn x) (List.Perm.refl _) gX11_open_X11_isHouse rfl rfl rfl hd_X11_isHouse ⟨by decide, by decide⟩ rfl (Nat.le_of_ble_eq_true rfl) dX11_open_2 ⟨Nat.le_of_ble_eq_true rfl, Nat.le_of_ble_eq_true rfl⟩ (fun v_ w_ hvw => ?_)
  rw [hvw.1, hvw.2]
  clear hvw
  refine q_at (pc' := 5) (st' := [.int (bI (hsB (tN T) x))]) (ws' := mC E a f hh A ++ tl) (k' := 0) (n' := 0) rfl rfl rfl rfl rfl ?_
  refine q_if_ne F (tgt := 11) dX11_open_5 (by decide) (fun h_5 => ?_) (fun h_5 => ?_)
  · skip
    have hb_5 := bI_1 h_5
    obtain ⟨j, hj, rfl⟩ := hsB_of hn hb_5
    have hcj : (nI j).toNatClampNeg = j := nI_clamp (by omega)
    refine q_aload_n F 0 dX11_open_11 rfl ?_
    refine q_aload_n F 0 dX11_open_12 rfl ?_
    refine q_callV F (ci := 11) (As := []) (rest := [.ref (a 32)]) (List.mem_append_left _ (List.mem_of_getElem? (i := 0) rfl)) rfl (c_X11_shutBits l E a f hh A tl T hm hn ) (List.Perm.refl _) gX11_open_X11_shutBits rfl rfl rfl hd_X11_shutBits ⟨by decide, by decide⟩ rfl (Nat.le_of_ble_eq_true rfl) dX11_open_13 ⟨Nat.le_of_ble_eq_true rfl, Nat.le_of_ble_eq_true rfl⟩ (fun v_ w_ hvw => ?_)
    rw [hvw.1, hvw.2]
    clear hvw
    refine q_at (pc' := 16) (st' := [.int (wb (shB T (A 7)) 6), .ref (a 32)]) (ws' := mC E a f hh A ++ tl) (k' := 0) (n' := 0) rfl rfl rfl rfl rfl ?_
    refine q_callV F (ci := 11) (As := [.int (wb (shB T (A 7)) 6)]) (rest := []) (List.mem_append_left _ (List.mem_of_getElem? (i := 0) rfl)) rfl (c_X11_mayOpen l E a f hh A tl T hm hn hR hO (wb (shB T (A 7)) 6)) (List.Perm.refl _) gX11_open_X11_mayOpen rfl rfl rfl hd_X11_mayOpen ⟨by decide, by decide⟩ rfl (Nat.le_of_ble_eq_true rfl) dX11_open_16 ⟨Nat.le_of_ble_eq_true rfl, Nat.le_of_ble_eq_true rfl⟩ (fun v_ w_ hvw => ?_)
    rw [hvw.1, hvw.2]
    clear hvw
    refine q_at (pc' := 19) (st' := [.int (myM T (wb (shB T (A 7)) 6))]) (ws' := mC E a f hh A ++ tl) (k' := 0) (n' := 0) rfl rfl rfl rfl rfl ?_
    refine q_toi (wb (mayS T (shB T (A 7))) 6) (myM_wb hn _) ?_
    refine q_iload_n F 1 dX11_open_19 rfl ?_
    refine q_ishr F dX11_open_20 ?_
    refine q_iconst F dX11_open_21 (v := nI 1) (by decide) ?_
    refine q_iand F dX11_open_22 ?_
    refine q_if_ne F (tgt := 29) dX11_open_23 (by decide) (fun h_23 => ?_) (fun h_23 => ?_)
    · skip
      have hmay : mayS T (shB T (A 7)) j = true := by (cases e : mayS T (shB T (A 7)) j with | true => rfl | false => exact absurd ((wb_bit0 _ (by omega)).mpr e) h_23)
      refine q_aload_n F 0 dX11_open_29 rfl ?_
      refine q_callV F (ci := 11) (As := []) (rest := []) (List.mem_append_left _ (List.mem_of_getElem? (i := 0) rfl)) rfl (c_X11_asItIs l E a f hh A tl ) (List.Perm.refl _) gX11_open_X11_asItIs rfl rfl rfl hd_X11_asItIs ⟨by decide, by decide⟩ rfl (Nat.le_of_ble_eq_true rfl) dX11_open_30 ⟨Nat.le_of_ble_eq_true rfl, Nat.le_of_ble_eq_true rfl⟩ (fun v_ w_ hvw => ?_)
      rw [hvw.1, hvw.2]
      clear hvw
      refine q_at (pc' := 33) (st' := []) (ws' := mC E a (upd (upd (upd f 8 (f 3)) 9 (f 5)) 10 (f 4)) hh A ++ tl) (k' := 0) (n' := 0) rfl rfl rfl rfl rfl ?_
      refine q_aload_n F 0 dX11_open_33 rfl ?_
      refine q_get F (ci := 11) (j := 7) (v := .ref (a 7)) (List.mem_append_left _ (List.mem_of_getElem? (i := 0) rfl)) rfl hi11 (by decide) hf13_11 rfl rfl dX11_open_34 ?_
      refine q_bipush F dX11_open_37 (v := nI 8) (by decide) ?_
      refine q_iload_n F 1 dX11_open_39 rfl ?_
      refine q_imul F dX11_open_40 ?_
      refine q_toi (nI (8 * j)) (pk_mul _ _) ?_
      refine q_bipush F dX11_open_41 (v := nI 6) (by decide) ?_
      refine q_iadd F dX11_open_43 ?_
      refine q_toi (nI (8 * j + 6)) (nI_add _ _) ?_
      refine q_dup2 F dX11_open_44 rfl rfl ?_
      refine q_iald F (f := A 7) (List.mem_append_left _ (List.mem_of_getElem? (i := 2) rfl)) (8 * j + 6) rfl (by omega) (by decide) dX11_open_45 ?_
      refine q_aload_n F 0 dX11_open_46 rfl ?_
      refine q_iload_n F 1 dX11_open_47 rfl ?_
      refine q_callV F (ci := 11) (As := [.int (nI j)]) (rest := [.int (A 7 (8 * j + 6)), .int (nI (8 * j + 6)), .ref (a 7)]) (List.mem_append_left _ (List.mem_of_getElem? (i := 0) rfl)) rfl (c_X11_opens l E a (upd (upd (upd f 8 (f 3)) 9 (f 5)) 10 (f 4)) hh A tl T hm hn hR hO j hj hp3) (List.Perm.refl _) gX11_open_X11_opens rfl rfl rfl hd_X11_opens ⟨by decide, by decide⟩ rfl (Nat.le_of_ble_eq_true rfl) dX11_open_48 ⟨Nat.le_of_ble_eq_true rfl, Nat.le_of_ble_eq_true rfl⟩ (fun v_ w_ hvw => ?_)
      rw [hvw.1, hvw.2]
      clear hvw
      refine q_at (pc' := 51) (st' := [.int (ltA (tK T j) (tL T j) (tE T j) (brg (tK T j) (tP T j) (f 3) (f 5) (f 4))), .int (A 7 (8 * j + 6)), .int (nI (8 * j + 6)), .ref (a 7)]) (ws' := mC E a (upd (upd (upd f 8 (tP T j)) 9 (brg (tK T j) (tP T j) (f 3) (f 5) (f 4))) 10 (kpu (tK T j) (brg (tK T j) (tP T j) (f 3) (f 5) (f 4)))) hh A ++ tl) (k' := 0) (n' := 0) rfl rfl rfl rfl rfl ?_
      refine q_iadd F dX11_open_51 ?_
      refine q_iast F 2 rfl (8 * j + 6) rfl (by omega) (by decide) dX11_open_52 (ws' := mC E a (upd (upd (upd f 8 (tP T j)) 9 (brg (tK T j) (tP T j) (f 3) (f 5) (f 4))) 10 (kpu (tK T j) (brg (tK T j) (tP T j) (f 3) (f 5) (f 4)))) hh (va_up A 7 (upd (A 7) (8 * j + 6) ((A 7 (8 * j + 6)) + (ltA (tK T j) (tL T j) (tE T j) (brg (tK T j) (tP T j) (f 3) (f 5) (f 4)))))) ++ tl) rfl ?_
      refine q_aload_n F 0 dX11_open_53 rfl ?_
      refine q_get F (ci := 11) (j := 7) (v := .ref (a 7)) (List.mem_append_left _ (List.mem_of_getElem? (i := 0) rfl)) rfl hi11 (by decide) hf13_11 rfl rfl dX11_open_54 ?_
      refine q_bipush F dX11_open_57 (v := nI 8) (by decide) ?_
      refine q_iload_n F 1 dX11_open_59 rfl ?_
      refine q_imul F dX11_open_60 ?_
      refine q_toi (nI (8 * j)) (pk_mul _ _) ?_
      refine q_iconst F dX11_open_61 (v := nI 4) (by decide) ?_
      refine q_iadd F dX11_open_62 ?_
      refine q_toi (nI (8 * j + 4)) (nI_add _ _) ?_
      refine q_iconst F dX11_open_63 (v := (-1)) (by decide) ?_
      refine q_iast F 2 rfl (8 * j + 4) rfl (by omega) (by decide) dX11_open_64 (ws' := mC E a (upd (upd (upd f 8 (tP T j)) 9 (brg (tK T j) (tP T j) (f 3) (f 5) (f 4))) 10 (kpu (tK T j) (brg (tK T j) (tP T j) (f 3) (f 5) (f 4)))) hh (va_up A 7 (upd (upd (A 7) (8 * j + 6) ((A 7 (8 * j + 6)) + (ltA (tK T j) (tL T j) (tE T j) (brg (tK T j) (tP T j) (f 3) (f 5) (f 4))))) (8 * j + 4) (-1))) ++ tl) rfl ?_
      refine q_aload_n F 0 dX11_open_65 rfl ?_
      refine q_get F (ci := 11) (j := 7) (v := .ref (a 7)) (List.mem_append_left _ (List.mem_of_getElem? (i := 0) rfl)) rfl hi11 (by decide) hf13_11 rfl rfl dX11_open_66 ?_
      refine q_bipush F dX11_open_69 (v := nI 8) (by decide) ?_
      refine q_iload_n F 1 dX11_open_71 rfl ?_
      refine q_imul F dX11_open_72 ?_
      refine q_toi (nI (8 * j)) (pk_mul _ _) ?_
      refine q_iconst F dX11_open_73 (v := nI 5) (by decide) ?_
      refine q_iadd F dX11_open_74 ?_
      refine q_toi (nI (8 * j + 5)) (nI_add _ _) ?_
      refine q_aload_n F 0 dX11_open_75 rfl ?_
      refine q_get F (ci := 11) (j := 9) (v := .int (brg (tK T j) (tP T j) (f 3) (f 5) (f 4))) (List.mem_append_left _ (List.mem_of_getElem? (i := 0) rfl)) rfl hi11 (by decide) hf105_11 rfl rfl dX11_open_76 ?_
      refine q_iast F 2 rfl (8 * j + 5) rfl (by omega) (by decide) dX11_open_79 (ws' := mC E a (upd (upd (upd f 8 (tP T j)) 9 (brg (tK T j) (tP T j) (f 3) (f 5) (f 4))) 10 (kpu (tK T j) (brg (tK T j) (tP T j) (f 3) (f 5) (f 4)))) hh (va_up A 7 (upd (upd (upd (A 7) (8 * j + 6) ((A 7 (8 * j + 6)) + (ltA (tK T j) (tL T j) (tE T j) (brg (tK T j) (tP T j) (f 3) (f 5) (f 4))))) (8 * j + 4) (-1)) (8 * j + 5) (brg (tK T j) (tP T j) (f 3) (f 5) (f 4)))) ++ tl) rfl ?_
      refine q_aload_n F 0 dX11_open_80 rfl ?_
      refine q_aload_n F 0 dX11_open_81 rfl ?_
      refine q_get F (ci := 11) (j := 8) (v := .int (tP T j)) (List.mem_append_left _ (List.mem_of_getElem? (i := 0) rfl)) rfl hi11 (by decide) hf102_11 rfl rfl dX11_open_82 ?_
      refine q_put F (j := 3) 0 rfl rfl hi11 tyX11 tyX11_ok nmX11 (by decide) hf70_11 rfl rfl rfl rfl (Nat.le_of_ble_eq_true rfl) dX11_open_85 (ws' := mC E a (upd (upd (upd (upd f 3 (tP T j)) 8 (tP T j)) 9 (brg (tK T j) (tP T j) (f 3) (f 5) (f 4))) 10 (kpu (tK T j) (brg (tK T j) (tP T j) (f 3) (f 5) (f 4)))) hh (va_up A 7 (upd (upd (upd (A 7) (8 * j + 6) ((A 7 (8 * j + 6)) + (ltA (tK T j) (tL T j) (tE T j) (brg (tK T j) (tP T j) (f 3) (f 5) (f 4))))) (8 * j + 4) (-1)) (8 * j + 5) (brg (tK T j) (tP T j) (f 3) (f 5) (f 4)))) ++ tl) rfl ?_
      refine q_aload_n F 0 dX11_open_88 rfl ?_
      refine q_aload_n F 0 dX11_open_89 rfl ?_
      refine q_get F (ci := 11) (j := 10) (v := .int (kpu (tK T j) (brg (tK T j) (tP T j) (f 3) (f 5) (f 4)))) (List.mem_append_left _ (List.mem_of_getElem? (i := 0) rfl)) rfl hi11 (by decide) hf108_11 rfl rfl dX11_open_90 ?_
      refine q_put F (j := 4) 0 rfl rfl hi11 tyX11 tyX11_ok nmX11 (by decide) hf73_11 rfl rfl rfl rfl (Nat.le_of_ble_eq_true rfl) dX11_open_93 (ws' := mC E a (upd (upd (upd (upd (upd f 3 (tP T j)) 4 (kpu (tK T j) (brg (tK T j) (tP T j) (f 3) (f 5) (f 4)))) 8 (tP T j)) 9 (brg (tK T j) (tP T j) (f 3) (f 5) (f 4))) 10 (kpu (tK T j) (brg (tK T j) (tP T j) (f 3) (f 5) (f 4)))) hh (va_up A 7 (upd (upd (upd (A 7) (8 * j + 6) ((A 7 (8 * j + 6)) + (ltA (tK T j) (tL T j) (tE T j) (brg (tK T j) (tP T j) (f 3) (f 5) (f 4))))) (8 * j + 4) (-1)) (8 * j + 5) (brg (tK T j) (tP T j) (f 3) (f 5) (f 4)))) ++ tl) rfl ?_
      refine q_aload_n F 0 dX11_open_96 rfl ?_
      refine q_aload_n F 0 dX11_open_97 rfl ?_
      refine q_get F (ci := 11) (j := 9) (v := .int (brg (tK T j) (tP T j) (f 3) (f 5) (f 4))) (List.mem_append_left _ (List.mem_of_getElem? (i := 0) rfl)) rfl hi11 (by decide) hf105_11 rfl rfl dX11_open_98 ?_
      refine q_put F (j := 5) 0 rfl rfl hi11 tyX11 tyX11_ok nmX11 (by decide) hf76_11 rfl rfl rfl rfl (Nat.le_of_ble_eq_true rfl) dX11_open_101 (ws' := mC E a (upd (upd (upd (upd (upd (upd f 3 (tP T j)) 4 (kpu (tK T j) (brg (tK T j) (tP T j) (f 3) (f 5) (f 4)))) 5 (brg (tK T j) (tP T j) (f 3) (f 5) (f 4))) 8 (tP T j)) 9 (brg (tK T j) (tP T j) (f 3) (f 5) (f 4))) 10 (kpu (tK T j) (brg (tK T j) (tP T j) (f 3) (f 5) (f 4)))) hh (va_up A 7 (upd (upd (upd (A 7) (8 * j + 6) ((A 7 (8 * j + 6)) + (ltA (tK T j) (tL T j) (tE T j) (brg (tK T j) (tP T j) (f 3) (f 5) (f 4))))) (8 * j + 4) (-1)) (8 * j + 5) (brg (tK T j) (tP T j) (f 3) (f 5) (f 4)))) ++ tl) rfl ?_
      refine q_aload_n F 0 dX11_open_104 rfl ?_
      refine q_get F (ci := 11) (j := 9) (v := .int (brg (tK T j) (tP T j) (f 3) (f 5) (f 4))) (List.mem_append_left _ (List.mem_of_getElem? (i := 0) rfl)) rfl hi11 (by decide) hf105_11 rfl rfl dX11_open_105 ?_
      refine q_iret F hr_ dX11_open_108 (hp_ _ _ (Or.inr (Or.inr ⟨j, hj, rfl, hmay, rfl, _, ?_, rfl⟩)))
      intro k hk
      simp only [opF, upd]
      by_cases e3 : k = 3; simp [e3]; by_cases e4 : k = 4; simp [e4, opB]; by_cases e5 : k = 5; simp [e5, opB]
      have e8 : k ≠ 8 := fun z => by rw [z] at hk; exact absurd hk (by decide)
      have e9 : k ≠ 9 := fun z => by rw [z] at hk; exact absurd hk (by decide)
      have e10 : k ≠ 10 := fun z => by rw [z] at hk; exact absurd hk (by decide)
      simp [e3, e4, e5, e8, e9, e10]
    · skip
      refine q_bipush F dX11_open_26 (v := (-103)) (by decide) ?_
      exact q_iret F hr_ dX11_open_28 (hp_ _ _ (Or.inr (Or.inl ⟨j, hj, rfl, (wb_bit0 _ (by omega)).mp h_23, rfl, rfl⟩)))
  · skip
    have hb_5 := bI_0 h_5
    refine q_bipush F dX11_open_8 (v := (-101)) (by decide) ?_
    exact q_iret F hr_ dX11_open_10 (hp_ _ _ (Or.inl ⟨hb_5, rfl, rfl⟩))

set_option maxHeartbeats 4000000 in
set_option maxRecDepth 100000 in
theorem c_X11_night (l : Launch) (E : gEnv) (a : Nat → Nat) (f : Nat → Int32) (hh : Int64) (A : Nat → Nat → Int32) (tl : va_W) (T : gTown) (hm : f 2 = nI (tN T)) (hn : tN T ≤ 6) (hR : rowsOf (A 7) T) (hO : okT T) : Cn l E yX11_night wsX11_night (rmL 2 0 0) [.ref (a 32)] (mC E a f hh A ++ tl) 0 0 (fun v w => (tN T = 0 ∧ v = some (.int (-103)) ∧ w = mC E a f hh A ++ tl) ∨ (¬ tN T = 0 ∧ v = some (.int (ngS T (A 7) (tN T))) ∧ w = mC E a (upd (upd f 4 (nI 0)) 5 (nI 0)) hh (va_up A 7 (ngR T (A 7) (tN T))) ++ tl)) := by
  refine Cn.of (own := RX11) (cc := cX11_night) (maxL := 4) (ret := (some .int)) (lv := [(0, .ref (a 32))]) (by decide) rfl rfl (Nat.le_of_ble_eq_true rfl) rfl ?_
  intro p_ e_ s_ m_ args_ below_ meth_ c_ A_ P_ hp_ F hr_ hnm_
  have hd_X11_lacks : yX11_lacks.cls = RX11 ∧ yX11_lacks.cls ≠ "java/lang/invoke/MethodHandle" ∧ yX11_lacks.cls ≠ "java/lang/invoke/VarHandle" ∧ (parseMethodDescriptor yX11_lacks.desc).map (fun d => d.parameters.length) = some 0 := by decide +kernel
  have hf67_11 : Cond.fieldLink RX11 67 "KeyOnStreetModel" (TX11 2).2.1 (TX11 2).2.2.1 ∈ wsX11_night := by decide +kernel
  have hi11 : ∀ w ∈ u_ws RX11 TX11 32, w ∈ wsX11_night := by decide +kernel
  have hf76_11 : Cond.fieldLink RX11 76 "KeyOnStreetModel" (TX11 5).2.1 (TX11 5).2.2.1 ∈ wsX11_night := by decide +kernel
  have hf73_11 : Cond.fieldLink RX11 73 "KeyOnStreetModel" (TX11 4).2.1 (TX11 4).2.2.1 ∈ wsX11_night := by decide +kernel
  have hd_X11_isShut : yX11_isShut.cls = RX11 ∧ yX11_isShut.cls ≠ "java/lang/invoke/MethodHandle" ∧ yX11_isShut.cls ≠ "java/lang/invoke/VarHandle" ∧ (parseMethodDescriptor yX11_isShut.desc).map (fun d => d.parameters.length) = some 1 := by decide +kernel
  have hf13_11 : Cond.fieldLink RX11 13 "KeyOnStreetModel" (TX11 7).2.1 (TX11 7).2.2.1 ∈ wsX11_night := by decide +kernel
  refine q_aload_n F 0 dX11_night_0 rfl ?_
  refine q_callV F (ci := 11) (As := []) (rest := []) (List.mem_append_left _ (List.mem_of_getElem? (i := 0) rfl)) rfl (c_X11_lacks l E a f hh A tl T hm hn ) (List.Perm.refl _) gX11_night_X11_lacks rfl rfl rfl hd_X11_lacks ⟨by decide, by decide⟩ rfl (Nat.le_of_ble_eq_true rfl) dX11_night_1 ⟨Nat.le_of_ble_eq_true rfl, Nat.le_of_ble_eq_true rfl⟩ (fun v_ w_ hvw => ?_)
  rw [hvw.1, hvw.2]
  clear hvw
  refine q_at (pc' := 4) (st' := [.int (bI (decide (tN T = 0)))]) (ws' := mC E a f hh A ++ tl) (k' := 0) (n' := 0) rfl rfl rfl rfl rfl ?_
  refine q_if_eq F (tgt := 10) dX11_night_4 (by decide) (fun h_4 => ?_) (fun h_4 => ?_)
  · skip
    have hb_4 := bI_0 h_4
    refine q_iconst F dX11_night_10 (v := nI 0) (by decide) ?_
    refine q_istore_n F (lv' := [(1, .int (nI 0)), (0, .ref (a 32))]) dX11_night_11 (by decide) rfl ?_
    refine q_iconst F dX11_night_12 (v := nI 0) (by decide) ?_
    refine q_istore_n F (lv' := [(2, .int (nI 0)), (1, .int (nI 0)), (0, .ref (a 32))]) dX11_night_13 (by decide) rfl ?_
    have lb14 : ∀ (fu : Nat) (i : Nat) (hi : i ≤ tN T), tN T - i < fu → gW p_ l e_ (rmL 2 0 0) s_ m_ args_ below_ meth_ c_ E A_ 4 (MQ below_ (gQ E A_ P_) args_ s_ 0 0 A_) 14 [(0, .ref (a 32)), (1, .int (ngS T (A 7) i)), (2, .int (nI i))] [] (mC E a f hh (va_up A 7 (ngR T (A 7) i)) ++ tl) 0 0 := by
      intro fu_14
      induction fu_14 with
      | zero => intro i hi hfu; exact absurd hfu (Nat.not_lt_zero _)
      | succ fu_14 ih_14 =>
        intro i hi hfu_14
        refine q_iload_n F 2 dX11_night_14 rfl ?_
        refine q_aload_n F 0 dX11_night_15 rfl ?_
        refine q_get F (ci := 11) (j := 2) (v := .int (f 2)) (List.mem_append_left _ (List.mem_of_getElem? (i := 0) rfl)) rfl hi11 (by decide) hf67_11 rfl rfl dX11_night_16 ?_
        refine q_toi (nI (tN T)) (hm) ?_
        refine q_icmp_ge F (tgt := 109) dX11_night_19 (by decide) (fun h_19 => ?_) (fun h_19 => ?_)
        · skip
          have hn_19 : i ≥ (tN T) := nf_ge_t (by omega) (by omega) h_19
          refine q_aload_n F 0 dX11_night_109 rfl ?_
          refine q_iconst F dX11_night_110 (v := nI 0) (by decide) ?_
          refine q_put F (j := 5) 0 rfl rfl hi11 tyX11 tyX11_ok nmX11 (by decide) hf76_11 rfl rfl rfl rfl (Nat.le_of_ble_eq_true rfl) dX11_night_111 (ws' := mC E a (upd f 5 (nI 0)) hh (va_up A 7 (ngR T (A 7) i)) ++ tl) rfl ?_
          refine q_aload_n F 0 dX11_night_114 rfl ?_
          refine q_iconst F dX11_night_115 (v := nI 0) (by decide) ?_
          refine q_put F (j := 4) 0 rfl rfl hi11 tyX11 tyX11_ok nmX11 (by decide) hf73_11 rfl rfl rfl rfl (Nat.le_of_ble_eq_true rfl) dX11_night_116 (ws' := mC E a (upd (upd f 4 (nI 0)) 5 (nI 0)) hh (va_up A 7 (ngR T (A 7) i)) ++ tl) rfl ?_
          refine q_iload_n F 1 dX11_night_119 rfl ?_
          obtain rfl : i = tN T := by omega
          exact q_iret F hr_ dX11_night_120 (hp_ _ _ (Or.inr ⟨by simpa using hb_4, rfl, rfl⟩))
        · skip
          have hn_19 : i < (tN T) := nf_ge_f (by omega) (by omega) h_19
          refine q_aload_n F 0 dX11_night_22 rfl ?_
          refine q_iload_n F 2 dX11_night_23 rfl ?_
          refine q_callV F (ci := 11) (As := [.int (nI i)]) (rest := []) (List.mem_append_left _ (List.mem_of_getElem? (i := 0) rfl)) rfl (c_X11_isShut l E a f hh (va_up A 7 (ngR T (A 7) i)) tl T hm hn i (by omega)) (List.Perm.refl _) gX11_night_X11_isShut rfl rfl rfl hd_X11_isShut ⟨by decide, by decide⟩ rfl (Nat.le_of_ble_eq_true rfl) dX11_night_24 ⟨Nat.le_of_ble_eq_true rfl, Nat.le_of_ble_eq_true rfl⟩ (fun v_ w_ hvw => ?_)
          rw [hvw.1, hvw.2]
          clear hvw
          refine q_at (pc' := 27) (st' := [.int (bI (outB (sF (ngR T (A 7) i)) i))]) (ws' := mC E a f hh (va_up A 7 (ngR T (A 7) i)) ++ tl) (k' := 0) (n' := 0) rfl rfl rfl rfl rfl ?_
          have jn58 : gW p_ l e_ (rmL 2 0 0) s_ m_ args_ below_ meth_ c_ E A_ 4 (MQ below_ (gQ E A_ P_) args_ s_ 0 0 A_) 58 [(0, .ref (a 32)), (1, .int (ngS T (A 7) i)), (2, .int (nI i))] [.int (ngO T (ngR T (A 7) i) i)] (mC E a f hh (va_up A 7 (ngR T (A 7) i)) ++ tl) 0 0 := by
            refine q_istore_n F (lv' := [(3, .int (ngO T (ngR T (A 7) i) i)), (0, .ref (a 32)), (1, .int (ngS T (A 7) i)), (2, .int (nI i))]) dX11_night_58 (by decide) rfl ?_
            refine q_aload_n F 1 dX11_night_59 rfl ?_
            refine q_get F (ci := 11) (j := 7) (v := .ref (a 7)) (List.mem_append_left _ (List.mem_of_getElem? (i := 0) rfl)) rfl hi11 (by decide) hf13_11 rfl rfl dX11_night_60 ?_
            refine q_bipush F dX11_night_63 (v := nI 8) (by decide) ?_
            refine q_iload_n F 3 dX11_night_65 rfl ?_
            refine q_imul F dX11_night_66 ?_
            refine q_toi (nI (8 * i)) (pk_mul _ _) ?_
            refine q_bipush F dX11_night_67 (v := nI 7) (by decide) ?_
            refine q_iadd F dX11_night_69 ?_
            refine q_toi (nI (8 * i + 7)) (nI_add _ _) ?_
            refine q_dup2 F dX11_night_70 rfl rfl ?_
            refine q_iald F (f := ngR T (A 7) i) (List.mem_append_left _ (List.mem_of_getElem? (i := 2) rfl)) (8 * i + 7) rfl (by omega) (by decide) dX11_night_71 ?_
            refine q_iload_n F 0 dX11_night_72 rfl ?_
            refine q_iadd F dX11_night_73 ?_
            refine q_iast F 2 rfl (8 * i + 7) rfl (by omega) (by decide) dX11_night_74 (ws' := mC E a f hh (va_up A 7 (upd (ngR T (A 7) i) (8 * i + 7) ((ngR T (A 7) i (8 * i + 7)) + (ngO T (ngR T (A 7) i) i)))) ++ tl) rfl ?_
            refine q_iload_n F 2 dX11_night_75 rfl ?_
            refine q_iload_n F 0 dX11_night_76 rfl ?_
            refine q_iadd F dX11_night_77 ?_
            refine q_istore_n F (lv' := [(1, .int ((ngS T (A 7) i) + (ngO T (ngR T (A 7) i) i))), (3, .int (ngO T (ngR T (A 7) i) i)), (0, .ref (a 32)), (2, .int (nI i))]) dX11_night_78 (by decide) rfl ?_
            refine q_aload_n F 2 dX11_night_79 rfl ?_
            refine q_get F (ci := 11) (j := 7) (v := .ref (a 7)) (List.mem_append_left _ (List.mem_of_getElem? (i := 0) rfl)) rfl hi11 (by decide) hf13_11 rfl rfl dX11_night_80 ?_
            refine q_bipush F dX11_night_83 (v := nI 8) (by decide) ?_
            refine q_iload_n F 3 dX11_night_85 rfl ?_
            refine q_imul F dX11_night_86 ?_
            refine q_toi (nI (8 * i)) (pk_mul _ _) ?_
            refine q_iconst F dX11_night_87 (v := nI 4) (by decide) ?_
            refine q_iadd F dX11_night_88 ?_
            refine q_toi (nI (8 * i + 4)) (nI_add _ _) ?_
            refine q_aload_n F 2 dX11_night_89 rfl ?_
            refine q_iload_n F 3 dX11_night_90 rfl ?_
            refine q_callV F (ci := 11) (As := [.int (nI i)]) (rest := [.int (nI (8 * i + 4)), .ref (a 7)]) (List.mem_append_left _ (List.mem_of_getElem? (i := 0) rfl)) rfl (c_X11_isShut l E a f hh (va_up A 7 (upd (ngR T (A 7) i) (8 * i + 7) ((ngR T (A 7) i (8 * i + 7)) + (ngO T (ngR T (A 7) i) i)))) tl T hm hn i (by omega)) (List.Perm.refl _) gX11_night_X11_isShut rfl rfl rfl hd_X11_isShut ⟨by decide, by decide⟩ rfl (Nat.le_of_ble_eq_true rfl) dX11_night_91 ⟨Nat.le_of_ble_eq_true rfl, Nat.le_of_ble_eq_true rfl⟩ (fun v_ w_ hvw => ?_)
            rw [hvw.1, hvw.2]
            clear hvw
            refine q_at (pc' := 94) (st' := [.int (bI (outB (sF (upd (ngR T (A 7) i) (8 * i + 7) ((ngR T (A 7) i (8 * i + 7)) + (ngO T (ngR T (A 7) i) i)))) i)), .int (nI (8 * i + 4)), .ref (a 7)]) (ws' := mC E a f hh (va_up A 7 (upd (ngR T (A 7) i) (8 * i + 7) ((ngR T (A 7) i (8 * i + 7)) + (ngO T (ngR T (A 7) i) i)))) ++ tl) (k' := 0) (n' := 0) rfl rfl rfl rfl rfl ?_
            have jn102 : gW p_ l e_ (rmL 2 0 0) s_ m_ args_ below_ meth_ c_ E A_ 4 (MQ below_ (gQ E A_ P_) args_ s_ 0 0 A_) 102 [(1, .int ((ngS T (A 7) i) + (ngO T (ngR T (A 7) i) i))), (3, .int (ngO T (ngR T (A 7) i) i)), (0, .ref (a 32)), (2, .int (nI i))] [.int (if outB (sF (ngR T (A 7) i)) i then nI 0 else (-1)), .int (nI (8 * i + 4)), .ref (a 7)] (mC E a f hh (va_up A 7 (upd (ngR T (A 7) i) (8 * i + 7) ((ngR T (A 7) i (8 * i + 7)) + (ngO T (ngR T (A 7) i) i)))) ++ tl) 0 0 := by
              refine q_iast F 2 rfl (8 * i + 4) rfl (by omega) (by decide) dX11_night_102 (ws' := mC E a f hh (va_up A 7 (upd (upd (ngR T (A 7) i) (8 * i + 7) ((ngR T (A 7) i (8 * i + 7)) + (ngO T (ngR T (A 7) i) i))) (8 * i + 4) (if outB (sF (ngR T (A 7) i)) i then nI 0 else (-1)))) ++ tl) rfl ?_
              refine q_iinc F 3 (v := nI (i + 1)) (lv' := [(2, .int (nI (i + 1))), (1, .int ((ngS T (A 7) i) + (ngO T (ngR T (A 7) i) i))), (3, .int (ngO T (ngR T (A 7) i) i)), (0, .ref (a 32))]) dX11_night_103 rfl (nI_1 _) (by decide) rfl ?_
              refine q_goto F (tgt := 14) dX11_night_106 (by decide) ?_
              refine q_lv [3, 1, 0] (lv' := [(0, .ref (a 32)), (1, .int ((ngS T (A 7) i) + (ngO T (ngR T (A 7) i) i))), (2, .int (nI (i + 1)))]) rfl ?_
              refine q_to (lv' := [(0, .ref (a 32)), (1, .int (ngS T (A 7) (i + 1))), (2, .int (nI (i + 1)))]) (st' := []) (ws' := mC E a f hh (va_up A 7 (ngR T (A 7) (i + 1))) ++ tl) (cE (vE (rfl)) (cE (vE (congrArg Value.int (by rfl))) (cE (vE (rfl)) rfl))) rfl (by rfl) ?_
              exact ih_14 (i + 1) (by omega) (by omega)
            refine q_if_eq F (tgt := 101) dX11_night_94 (by decide) (fun h_94 => ?_) (fun h_94 => ?_)
            · skip
              have hb_94 := bI_0 h_94
              refine q_iconst F dX11_night_101 (v := (-1)) (by decide) ?_
              refine q_toi (if outB (sF (ngR T (A 7) i)) i then nI 0 else (-1)) (by rw [out_7] at hb_94; rw [hb_94]; rfl) ?_
              exact jn102
            · skip
              have hb_94 := bI_1 h_94
              refine q_iconst F dX11_night_97 (v := nI 0) (by decide) ?_
              refine q_goto F (tgt := 102) dX11_night_98 (by decide) ?_
              refine q_toi (if outB (sF (ngR T (A 7) i)) i then nI 0 else (-1)) (by rw [out_7] at hb_94; rw [hb_94]; rfl) ?_
              exact jn102
          refine q_if_eq F (tgt := 57) dX11_night_27 (by decide) (fun h_27 => ?_) (fun h_27 => ?_)
          · skip
            have hb_27 := bI_0 h_27
            refine q_iconst F dX11_night_57 (v := nI 0) (by decide) ?_
            refine q_toi (ngO T (ngR T (A 7) i) i) (by rw [ngO, hb_27]; rfl) ?_
            exact jn58
          · skip
            have hb_27 := bI_1 h_27
            refine q_aload_n F 0 dX11_night_30 rfl ?_
            refine q_get F (ci := 11) (j := 7) (v := .ref (a 7)) (List.mem_append_left _ (List.mem_of_getElem? (i := 0) rfl)) rfl hi11 (by decide) hf13_11 rfl rfl dX11_night_31 ?_
            refine q_bipush F dX11_night_34 (v := nI 8) (by decide) ?_
            refine q_iload_n F 2 dX11_night_36 rfl ?_
            refine q_imul F dX11_night_37 ?_
            refine q_toi (nI (8 * i)) (pk_mul _ _) ?_
            refine q_iald F (f := ngR T (A 7) i) (List.mem_append_left _ (List.mem_of_getElem? (i := 2) rfl)) (8 * i) rfl (by omega) (by decide) dX11_night_38 ?_
            refine q_toi (nI (tK T i)) ((ngR_rows hR i i (by omega)).1) ?_
            have hk5 := (hO.2 i (by omega)).1
            refine q_iconst F dX11_night_39 (v := nI 2) (by decide) ?_
            refine q_icmp_eq F (tgt := 57) dX11_night_40 (by decide) (fun h_40 => ?_) (fun h_40 => ?_)
            · skip
              have hn_40 : (tK T i) = 2 := nf_eq_t (by omega) (by omega) h_40
              refine q_iconst F dX11_night_57 (v := nI 0) (by decide) ?_
              refine q_toi (ngO T (ngR T (A 7) i) i) (by rw [ngO, hb_27, hn_40]; rfl) ?_
              exact jn58
            · skip
              have hn_40 : (tK T i) ≠ 2 := nf_eq_f (by omega) (by omega) h_40
              refine q_aload_n F 0 dX11_night_43 rfl ?_
              refine q_get F (ci := 11) (j := 7) (v := .ref (a 7)) (List.mem_append_left _ (List.mem_of_getElem? (i := 0) rfl)) rfl hi11 (by decide) hf13_11 rfl rfl dX11_night_44 ?_
              refine q_bipush F dX11_night_47 (v := nI 8) (by decide) ?_
              refine q_iload_n F 2 dX11_night_49 rfl ?_
              refine q_imul F dX11_night_50 ?_
              refine q_toi (nI (8 * i)) (pk_mul _ _) ?_
              refine q_iconst F dX11_night_51 (v := nI 3) (by decide) ?_
              refine q_iadd F dX11_night_52 ?_
              refine q_toi (nI (8 * i + 3)) (nI_add _ _) ?_
              refine q_iald F (f := ngR T (A 7) i) (List.mem_append_left _ (List.mem_of_getElem? (i := 2) rfl)) (8 * i + 3) rfl (by omega) (by decide) dX11_night_53 ?_
              refine q_toi (tE T i) ((ngR_rows hR i i (by omega)).2.2.2) ?_
              refine q_goto F (tgt := 58) dX11_night_54 (by decide) ?_
              refine q_toi (ngO T (ngR T (A 7) i) i) (by rw [ngO, hb_27, slp_2 hn_40]; rfl) ?_
              exact jn58
    refine q_lv [2, 1, 0] (lv' := [(0, .ref (a 32)), (1, .int (nI 0)), (2, .int (nI 0))]) rfl ?_
    refine q_to (lv' := [(0, .ref (a 32)), (1, .int (ngS T (A 7) 0)), (2, .int (nI 0))]) (st' := []) (ws' := mC E a f hh (va_up A 7 (ngR T (A 7) 0)) ++ tl) (cE (vE (rfl)) (cE (vE (congrArg Value.int (by rfl))) (cE (vE (rfl)) rfl))) rfl (by rfl) ?_
    exact lb14 (tN T - 0 + 1) 0 (by omega) (Nat.lt_succ_self _)
  · skip
    have hb_4 := bI_1 h_4
    refine q_bipush F dX11_night_7 (v := (-103)) (by decide) ?_
    exact q_iret F hr_ dX11_night_9 (hp_ _ _ (Or.inl ⟨by simpa using hb_4, rfl, rfl⟩))
