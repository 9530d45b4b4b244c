/-! the reference's orders: who, codes, digits -/
def whA (b : Nat → Bool) (w0 : Nat → Int32) : Nat → Nat → Int32
  | 0 => w0
  | i + 1 => if b i then upd (whA b w0 i) (cnt b i) (nI i) else whA b w0 i
/-- the order that a code spells, from its end: m digits -/
def odA (w : Nat → Int32) (K c : Nat) (O0 : Nat → Int32) : Nat → Nat → Int32
  | 0 => O0
  | m + 1 => upd (odA w K c O0 m) (K - m - 1) (w (c / K ^ m % K))
def sdB (K c : Nat) : Nat → Int32
  | 0 => nI 0
  | m + 1 => sdB K c m ||| (nI 1 <<< (nI (c / K ^ m % K) &&& 31))
def isO (K c : Nat) : Bool := decide (sdB K c K = (nI 1 <<< (nI K &&& 31)) - nI 1)
/-- what is left behind k of an order -/
def lfB (b : Nat → Bool) (od : Nat → Nat) : Nat → Nat → Bool
  | 0 => b
  | k + 1 => clr (lfB b od k) (od k)
def alB (T : gTown) (b : Nat → Bool) (od : Nat → Nat) : Nat → Bool
  | 0 => true
  | k + 1 => alB T b od k && mayS T (lfB b od k) (od k)
theorem sub1_lt {n : Nat} (h : n ≤ 6) : (nI n - nI 1 < 0) ↔ n = 0 := by
  have key : ∀ a : Fin 7, (decide (nI a.val - nI 1 < 0)) = decide (a.val = 0) := by decide +kernel
  have e := key ⟨n, by omega⟩
  exact ⟨fun q => of_decide_eq_true (by rw [← e]; exact decide_eq_true q), fun q => of_decide_eq_true (by rw [e]; exact decide_eq_true q)⟩
theorem sub1_dec {K m : Nat} (hK : K ≤ 6) (h : m < K) : nI (K - m) - nI 1 + Int32.ofInt (-1) = nI (K - (m + 1)) - nI 1 := by
  rw [show K - m = (K - (m + 1)) + 1 by omega]
  have e : nI (K - (m + 1) + 1) - nI 1 = nI (K - (m + 1)) := nI_pred _
  rw [e, Int32.sub_eq_add_neg, show Int32.ofInt (-1) = -(nI 1) by decide]
theorem sub1_ix {K m : Nat} (h : m < K) : nI (K - m) - nI 1 = nI (K - m - 1) := by
  rw [show K - m = (K - m - 1) + 1 by omega]
  exact nI_pred _
theorem cnt_sub {b : Nat → Bool} {n : Nat} (hb : ∀ j, b j = true → j < n) : ∀ {m : Nat}, n ≤ m → cnt b m = cnt b n
  | 0, h => by rw [show n = 0 by omega]
  | m + 1, h => by
    rcases Nat.lt_or_ge n (m + 1) with q | q
    · have e : b m = false := by
        cases e : b m with
        | false => rfl
        | true => exact absurd (hb m e) (by omega)
      rw [cnt, cnt_sub hb (show n ≤ m by omega), e]; simp
    · rw [show n = m + 1 by omega]
set_option maxHeartbeats 4000000 in
set_option maxRecDepth 100000 in
theorem c_X11_copy_12_13 (l : Launch) (E : gEnv) (a : Nat → Nat) (f : Nat → Int32) (hh : Int64) (A : Nat → Nat → Int32) (tl : va_W) : Cn l E yX11_copy wsX11_copy (rmL 0 0 0) [.ref (a 12), .ref (a 13)] (mC E a f hh A ++ tl) 0 0 (fun v w => v = none ∧ w = mC E a f hh (va_up A 13 (A 12)) ++ tl) := by
  refine Cn.of (own := RX11) (cc := cX11_copy) (maxL := 3) (ret := none) (lv := [(0, .ref (a 12)), (1, .ref (a 13))]) (by decide) rfl rfl (Nat.le_of_ble_eq_true rfl) rfl ?_
  intro p_ e_ s_ m_ args_ below_ meth_ c_ A_ P_ hp_ F hr_ hnm_
  refine q_iconst F dX11_copy_0 (v := nI 0) (by decide) ?_
  refine q_istore_n F (lv' := [(2, .int (nI 0)), (0, .ref (a 12)), (1, .ref (a 13))]) dX11_copy_1 (by decide) rfl ?_
  have lb2 : ∀ (fu : Nat) (k : Nat) (hk : k ≤ 6), 6 - k < fu → gW p_ l e_ (rmL 0 0 0) s_ m_ args_ below_ meth_ c_ E A_ 3 (MQ below_ (gQ E A_ P_) args_ s_ 0 0 A_) 2 [(0, .ref (a 12)), (1, .ref (a 13)), (2, .int (nI k))] [] (mC E a f hh (va_up A 13 (fil (A 12) (A 13) k)) ++ tl) 0 0 := by
    intro fu_2
    induction fu_2 with
    | zero => intro k hk hfu; exact absurd hfu (Nat.not_lt_zero _)
    | succ fu_2 ih_2 =>
      intro k hk hfu_2
      refine q_iload_n F 2 dX11_copy_2 rfl ?_
      refine q_aload_n F 0 dX11_copy_3 rfl ?_
      refine q_alen F (v := nI 6) (List.mem_append_left _ (List.mem_of_getElem? (i := 4) rfl)) rfl dX11_copy_4 ?_
      refine q_icmp_ge F (tgt := 20) dX11_copy_5 (by decide) (fun h_5 => ?_) (fun h_5 => ?_)
      · skip
        have hn_5 : k ≥ 6 := nf_ge_t (by omega) (by omega) h_5
        obtain rfl : k = 6 := by omega
        refine q_mB (va_up A 13 (A 12)) (by intro z w hw; by_cases e : z = 13; (subst e; have hw2 : w < 6 := hw; simp [va_up, fil, hw2]); simp [va_up, e]) ?_
        refine q_vret F hr_ dX11_copy_20 (hp_ _ _ ⟨rfl, ?_⟩)
        rfl
      · skip
        have hn_5 : k < 6 := nf_ge_f (by omega) (by omega) h_5
        refine q_aload_n F 1 dX11_copy_8 rfl ?_
        refine q_iload_n F 2 dX11_copy_9 rfl ?_
        refine q_aload_n F 0 dX11_copy_10 rfl ?_
        refine q_iload_n F 2 dX11_copy_11 rfl ?_
        refine q_iald F (f := A 12) (List.mem_append_left _ (List.mem_of_getElem? (i := 4) rfl)) k rfl (by omega) (by decide) dX11_copy_12 ?_
        refine q_iast F 5 rfl k rfl (by omega) (by decide) dX11_copy_13 (ws' := mC E a f hh (va_up A 13 (upd (fil (A 12) (A 13) k) k (A 12 k))) ++ tl) rfl ?_
        refine q_iinc F 2 (v := nI (k + 1)) (lv' := [(2, .int (nI (k + 1))), (0, .ref (a 12)), (1, .ref (a 13))]) dX11_copy_14 rfl (nI_1 _) (by decide) rfl ?_
        refine q_goto F (tgt := 2) dX11_copy_17 (by decide) ?_
        refine q_lv [1, 2, 0] (lv' := [(0, .ref (a 12)), (1, .ref (a 13)), (2, .int (nI (k + 1)))]) rfl ?_
        refine q_to (lv' := [(0, .ref (a 12)), (1, .ref (a 13)), (2, .int (nI (k + 1)))]) (st' := []) (ws' := mC E a f hh (va_up A 13 (fil (A 12) (A 13) (k + 1))) ++ tl) rfl rfl (by simp only [fil_s]) ?_
        exact ih_2 (k + 1) (by omega) (by omega)
  refine q_lv [1, 2, 0] (lv' := [(0, .ref (a 12)), (1, .ref (a 13)), (2, .int (nI 0))]) rfl ?_
  refine q_to (lv' := [(0, .ref (a 12)), (1, .ref (a 13)), (2, .int (nI 0))]) (st' := []) (ws' := mC E a f hh (va_up A 13 (fil (A 12) (A 13) 0)) ++ tl) rfl rfl (by simp only [fil_0]; rfl) ?_
  exact lb2 (6 - 0 + 1) 0 (by omega) (Nat.lt_succ_self _)

set_option maxHeartbeats 4000000 in
set_option maxRecDepth 100000 in
theorem c_X11_copy_7_23 (l : Launch) (E : gEnv) (a : Nat → Nat) (f : Nat → Int32) (hh : Int64) (A : Nat → Nat → Int32) (tl : va_W) : Cn l E yX11_copy wsX11_copy (rmL 0 0 0) [.ref (a 7), .ref (a 23)] (mC E a f hh A ++ tl) 0 0 (fun v w => v = none ∧ w = mC E a f hh (va_up A 23 (A 7)) ++ tl) := by
  refine Cn.of (own := RX11) (cc := cX11_copy) (maxL := 3) (ret := none) (lv := [(0, .ref (a 7)), (1, .ref (a 23))]) (by decide) rfl rfl (Nat.le_of_ble_eq_true rfl) rfl ?_
  intro p_ e_ s_ m_ args_ below_ meth_ c_ A_ P_ hp_ F hr_ hnm_
  refine q_iconst F dX11_copy_0 (v := nI 0) (by decide) ?_
  refine q_istore_n F (lv' := [(2, .int (nI 0)), (0, .ref (a 7)), (1, .ref (a 23))]) dX11_copy_1 (by decide) rfl ?_
  have lb2 : ∀ (fu : Nat) (k : Nat) (hk : k ≤ 48), 48 - k < fu → gW p_ l e_ (rmL 0 0 0) s_ m_ args_ below_ meth_ c_ E A_ 3 (MQ below_ (gQ E A_ P_) args_ s_ 0 0 A_) 2 [(0, .ref (a 7)), (1, .ref (a 23)), (2, .int (nI k))] [] (mC E a f hh (va_up A 23 (fil (A 7) (A 23) k)) ++ tl) 0 0 := by
    intro fu_2
    induction fu_2 with
    | zero => intro k hk hfu; exact absurd hfu (Nat.not_lt_zero _)
    | succ fu_2 ih_2 =>
      intro k hk hfu_2
      refine q_iload_n F 2 dX11_copy_2 rfl ?_
      refine q_aload_n F 0 dX11_copy_3 rfl ?_
      refine q_alen F (v := nI 48) (List.mem_append_left _ (List.mem_of_getElem? (i := 2) rfl)) rfl dX11_copy_4 ?_
      refine q_icmp_ge F (tgt := 20) dX11_copy_5 (by decide) (fun h_5 => ?_) (fun h_5 => ?_)
      · skip
        have hn_5 : k ≥ 48 := nf_ge_t (by omega) (by omega) h_5
        obtain rfl : k = 48 := by omega
        refine q_mB (va_up A 23 (A 7)) (by intro z w hw; by_cases e : z = 23; (subst e; have hw2 : w < 48 := hw; simp [va_up, fil, hw2]); simp [va_up, e]) ?_
        refine q_vret F hr_ dX11_copy_20 (hp_ _ _ ⟨rfl, ?_⟩)
        rfl
      · skip
        have hn_5 : k < 48 := nf_ge_f (by omega) (by omega) h_5
        refine q_aload_n F 1 dX11_copy_8 rfl ?_
        refine q_iload_n F 2 dX11_copy_9 rfl ?_
        refine q_aload_n F 0 dX11_copy_10 rfl ?_
        refine q_iload_n F 2 dX11_copy_11 rfl ?_
        refine q_iald F (f := A 7) (List.mem_append_left _ (List.mem_of_getElem? (i := 2) rfl)) k rfl (by omega) (by decide) dX11_copy_12 ?_
        refine q_iast F 8 rfl k rfl (by omega) (by decide) dX11_copy_13 (ws' := mC E a f hh (va_up A 23 (upd (fil (A 7) (A 23) k) k (A 7 k))) ++ tl) rfl ?_
        refine q_iinc F 2 (v := nI (k + 1)) (lv' := [(2, .int (nI (k + 1))), (0, .ref (a 7)), (1, .ref (a 23))]) dX11_copy_14 rfl (nI_1 _) (by decide) rfl ?_
        refine q_goto F (tgt := 2) dX11_copy_17 (by decide) ?_
        refine q_lv [1, 2, 0] (lv' := [(0, .ref (a 7)), (1, .ref (a 23)), (2, .int (nI (k + 1)))]) rfl ?_
        refine q_to (lv' := [(0, .ref (a 7)), (1, .ref (a 23)), (2, .int (nI (k + 1)))]) (st' := []) (ws' := mC E a f hh (va_up A 23 (fil (A 7) (A 23) (k + 1))) ++ tl) rfl rfl (by simp only [fil_s]) ?_
        exact ih_2 (k + 1) (by omega) (by omega)
  refine q_lv [1, 2, 0] (lv' := [(0, .ref (a 7)), (1, .ref (a 23)), (2, .int (nI 0))]) rfl ?_
  refine q_to (lv' := [(0, .ref (a 7)), (1, .ref (a 23)), (2, .int (nI 0))]) (st' := []) (ws' := mC E a f hh (va_up A 23 (fil (A 7) (A 23) 0)) ++ tl) rfl rfl (by simp only [fil_0]; rfl) ?_
  exact lb2 (48 - 0 + 1) 0 (by omega) (Nat.lt_succ_self _)

set_option maxHeartbeats 4000000 in
set_option maxRecDepth 100000 in
theorem c_X11_copy_23_7 (l : Launch) (E : gEnv) (a : Nat → Nat) (f : Nat → Int32) (hh : Int64) (A : Nat → Nat → Int32) (tl : va_W) : Cn l E yX11_copy wsX11_copy (rmL 0 0 0) [.ref (a 23), .ref (a 7)] (mC E a f hh A ++ tl) 0 0 (fun v w => v = none ∧ w = mC E a f hh (va_up A 7 (A 23)) ++ tl) := by
  refine Cn.of (own := RX11) (cc := cX11_copy) (maxL := 3) (ret := none) (lv := [(0, .ref (a 23)), (1, .ref (a 7))]) (by decide) rfl rfl (Nat.le_of_ble_eq_true rfl) rfl ?_
  intro p_ e_ s_ m_ args_ below_ meth_ c_ A_ P_ hp_ F hr_ hnm_
  refine q_iconst F dX11_copy_0 (v := nI 0) (by decide) ?_
  refine q_istore_n F (lv' := [(2, .int (nI 0)), (0, .ref (a 23)), (1, .ref (a 7))]) dX11_copy_1 (by decide) rfl ?_
  have lb2 : ∀ (fu : Nat) (k : Nat) (hk : k ≤ 48), 48 - k < fu → gW p_ l e_ (rmL 0 0 0) s_ m_ args_ below_ meth_ c_ E A_ 3 (MQ below_ (gQ E A_ P_) args_ s_ 0 0 A_) 2 [(0, .ref (a 23)), (1, .ref (a 7)), (2, .int (nI k))] [] (mC E a f hh (va_up A 7 (fil (A 23) (A 7) k)) ++ tl) 0 0 := by
    intro fu_2
    induction fu_2 with
    | zero => intro k hk hfu; exact absurd hfu (Nat.not_lt_zero _)
    | succ fu_2 ih_2 =>
      intro k hk hfu_2
      refine q_iload_n F 2 dX11_copy_2 rfl ?_
      refine q_aload_n F 0 dX11_copy_3 rfl ?_
      refine q_alen F (v := nI 48) (List.mem_append_left _ (List.mem_of_getElem? (i := 8) rfl)) rfl dX11_copy_4 ?_
      refine q_icmp_ge F (tgt := 20) dX11_copy_5 (by decide) (fun h_5 => ?_) (fun h_5 => ?_)
      · skip
        have hn_5 : k ≥ 48 := nf_ge_t (by omega) (by omega) h_5
        obtain rfl : k = 48 := by omega
        refine q_mB (va_up A 7 (A 23)) (by intro z w hw; by_cases e : z = 7; (subst e; have hw2 : w < 48 := hw; simp [va_up, fil, hw2]); simp [va_up, e]) ?_
        refine q_vret F hr_ dX11_copy_20 (hp_ _ _ ⟨rfl, ?_⟩)
        rfl
      · skip
        have hn_5 : k < 48 := nf_ge_f (by omega) (by omega) h_5
        refine q_aload_n F 1 dX11_copy_8 rfl ?_
        refine q_iload_n F 2 dX11_copy_9 rfl ?_
        refine q_aload_n F 0 dX11_copy_10 rfl ?_
        refine q_iload_n F 2 dX11_copy_11 rfl ?_
        refine q_iald F (f := A 23) (List.mem_append_left _ (List.mem_of_getElem? (i := 8) rfl)) k rfl (by omega) (by decide) dX11_copy_12 ?_
        refine q_iast F 2 rfl k rfl (by omega) (by decide) dX11_copy_13 (ws' := mC E a f hh (va_up A 7 (upd (fil (A 23) (A 7) k) k (A 23 k))) ++ tl) rfl ?_
        refine q_iinc F 2 (v := nI (k + 1)) (lv' := [(2, .int (nI (k + 1))), (0, .ref (a 23)), (1, .ref (a 7))]) dX11_copy_14 rfl (nI_1 _) (by decide) rfl ?_
        refine q_goto F (tgt := 2) dX11_copy_17 (by decide) ?_
        refine q_lv [1, 2, 0] (lv' := [(0, .ref (a 23)), (1, .ref (a 7)), (2, .int (nI (k + 1)))]) rfl ?_
        refine q_to (lv' := [(0, .ref (a 23)), (1, .ref (a 7)), (2, .int (nI (k + 1)))]) (st' := []) (ws' := mC E a f hh (va_up A 7 (fil (A 23) (A 7) (k + 1))) ++ tl) rfl rfl (by simp only [fil_s]) ?_
        exact ih_2 (k + 1) (by omega) (by omega)
  refine q_lv [1, 2, 0] (lv' := [(0, .ref (a 23)), (1, .ref (a 7)), (2, .int (nI 0))]) rfl ?_
  refine q_to (lv' := [(0, .ref (a 23)), (1, .ref (a 7)), (2, .int (nI 0))]) (st' := []) (ws' := mC E a f hh (va_up A 7 (fil (A 23) (A 7) 0)) ++ tl) rfl rfl (by simp only [fil_0]; rfl) ?_
  exact lb2 (48 - 0 + 1) 0 (by omega) (Nat.lt_succ_self _)

set_option maxHeartbeats 4000000 in
set_option maxRecDepth 100000 in
theorem c_X11_copy_7_29 (l : Launch) (E : gEnv) (a : Nat → Nat) (f : Nat → Int32) (hh : Int64) (A : Nat → Nat → Int32) (tl : va_W) : Cn l E yX11_copy wsX11_copy (rmL 0 0 0) [.ref (a 7), .ref (a 29)] (mC E a f hh A ++ tl) 0 0 (fun v w => v = none ∧ w = mC E a f hh (va_up A 29 (A 7)) ++ tl) := by
  refine Cn.of (own := RX11) (cc := cX11_copy) (maxL := 3) (ret := none) (lv := [(0, .ref (a 7)), (1, .ref (a 29))]) (by decide) rfl rfl (Nat.le_of_ble_eq_true rfl) rfl ?_
  intro p_ e_ s_ m_ args_ below_ meth_ c_ A_ P_ hp_ F hr_ hnm_
  refine q_iconst F dX11_copy_0 (v := nI 0) (by decide) ?_
  refine q_istore_n F (lv' := [(2, .int (nI 0)), (0, .ref (a 7)), (1, .ref (a 29))]) dX11_copy_1 (by decide) rfl ?_
  have lb2 : ∀ (fu : Nat) (k : Nat) (hk : k ≤ 48), 48 - k < fu → gW p_ l e_ (rmL 0 0 0) s_ m_ args_ below_ meth_ c_ E A_ 3 (MQ below_ (gQ E A_ P_) args_ s_ 0 0 A_) 2 [(0, .ref (a 7)), (1, .ref (a 29)), (2, .int (nI k))] [] (mC E a f hh (va_up A 29 (fil (A 7) (A 29) k)) ++ tl) 0 0 := by
    intro fu_2
    induction fu_2 with
    | zero => intro k hk hfu; exact absurd hfu (Nat.not_lt_zero _)
    | succ fu_2 ih_2 =>
      intro k hk hfu_2
      refine q_iload_n F 2 dX11_copy_2 rfl ?_
      refine q_aload_n F 0 dX11_copy_3 rfl ?_
      refine q_alen F (v := nI 48) (List.mem_append_left _ (List.mem_of_getElem? (i := 2) rfl)) rfl dX11_copy_4 ?_
      refine q_icmp_ge F (tgt := 20) dX11_copy_5 (by decide) (fun h_5 => ?_) (fun h_5 => ?_)
      · skip
        have hn_5 : k ≥ 48 := nf_ge_t (by omega) (by omega) h_5
        obtain rfl : k = 48 := by omega
        refine q_mB (va_up A 29 (A 7)) (by intro z w hw; by_cases e : z = 29; (subst e; have hw2 : w < 48 := hw; simp [va_up, fil, hw2]); simp [va_up, e]) ?_
        refine q_vret F hr_ dX11_copy_20 (hp_ _ _ ⟨rfl, ?_⟩)
        rfl
      · skip
        have hn_5 : k < 48 := nf_ge_f (by omega) (by omega) h_5
        refine q_aload_n F 1 dX11_copy_8 rfl ?_
        refine q_iload_n F 2 dX11_copy_9 rfl ?_
        refine q_aload_n F 0 dX11_copy_10 rfl ?_
        refine q_iload_n F 2 dX11_copy_11 rfl ?_
        refine q_iald F (f := A 7) (List.mem_append_left _ (List.mem_of_getElem? (i := 2) rfl)) k rfl (by omega) (by decide) dX11_copy_12 ?_
        refine q_iast F 9 rfl k rfl (by omega) (by decide) dX11_copy_13 (ws' := mC E a f hh (va_up A 29 (upd (fil (A 7) (A 29) k) k (A 7 k))) ++ tl) rfl ?_
        refine q_iinc F 2 (v := nI (k + 1)) (lv' := [(2, .int (nI (k + 1))), (0, .ref (a 7)), (1, .ref (a 29))]) dX11_copy_14 rfl (nI_1 _) (by decide) rfl ?_
        refine q_goto F (tgt := 2) dX11_copy_17 (by decide) ?_
        refine q_lv [1, 2, 0] (lv' := [(0, .ref (a 7)), (1, .ref (a 29)), (2, .int (nI (k + 1)))]) rfl ?_
        refine q_to (lv' := [(0, .ref (a 7)), (1, .ref (a 29)), (2, .int (nI (k + 1)))]) (st' := []) (ws' := mC E a f hh (va_up A 29 (fil (A 7) (A 29) (k + 1))) ++ tl) rfl rfl (by simp only [fil_s]) ?_
        exact ih_2 (k + 1) (by omega) (by omega)
  refine q_lv [1, 2, 0] (lv' := [(0, .ref (a 7)), (1, .ref (a 29)), (2, .int (nI 0))]) rfl ?_
  refine q_to (lv' := [(0, .ref (a 7)), (1, .ref (a 29)), (2, .int (nI 0))]) (st' := []) (ws' := mC E a f hh (va_up A 29 (fil (A 7) (A 29) 0)) ++ tl) rfl rfl (by simp only [fil_0]; rfl) ?_
  exact lb2 (48 - 0 + 1) 0 (by omega) (Nat.lt_succ_self _)

set_option maxHeartbeats 4000000 in
set_option maxRecDepth 100000 in
theorem c_X11_copy_21_30 (l : Launch) (E : gEnv) (a : Nat → Nat) (f : Nat → Int32) (hh : Int64) (A : Nat → Nat → Int32) (tl : va_W) : Cn l E yX11_copy wsX11_copy (rmL 0 0 0) [.ref (a 21), .ref (a 30)] (mC E a f hh A ++ tl) 0 0 (fun v w => v = none ∧ w = mC E a f hh (va_up A 30 (A 21)) ++ tl) := by
  refine Cn.of (own := RX11) (cc := cX11_copy) (maxL := 3) (ret := none) (lv := [(0, .ref (a 21)), (1, .ref (a 30))]) (by decide) rfl rfl (Nat.le_of_ble_eq_true rfl) rfl ?_
  intro p_ e_ s_ m_ args_ below_ meth_ c_ A_ P_ hp_ F hr_ hnm_
  refine q_iconst F dX11_copy_0 (v := nI 0) (by decide) ?_
  refine q_istore_n F (lv' := [(2, .int (nI 0)), (0, .ref (a 21)), (1, .ref (a 30))]) dX11_copy_1 (by decide) rfl ?_
  have lb2 : ∀ (fu : Nat) (k : Nat) (hk : k ≤ 18), 18 - k < fu → gW p_ l e_ (rmL 0 0 0) s_ m_ args_ below_ meth_ c_ E A_ 3 (MQ below_ (gQ E A_ P_) args_ s_ 0 0 A_) 2 [(0, .ref (a 21)), (1, .ref (a 30)), (2, .int (nI k))] [] (mC E a f hh (va_up A 30 (fil (A 21) (A 30) k)) ++ tl) 0 0 := by
    intro fu_2
    induction fu_2 with
    | zero => intro k hk hfu; exact absurd hfu (Nat.not_lt_zero _)
    | succ fu_2 ih_2 =>
      intro k hk hfu_2
      refine q_iload_n F 2 dX11_copy_2 rfl ?_
      refine q_aload_n F 0 dX11_copy_3 rfl ?_
      refine q_alen F (v := nI 18) (List.mem_append_left _ (List.mem_of_getElem? (i := 7) rfl)) rfl dX11_copy_4 ?_
      refine q_icmp_ge F (tgt := 20) dX11_copy_5 (by decide) (fun h_5 => ?_) (fun h_5 => ?_)
      · skip
        have hn_5 : k ≥ 18 := nf_ge_t (by omega) (by omega) h_5
        obtain rfl : k = 18 := by omega
        refine q_mB (va_up A 30 (A 21)) (by intro z w hw; by_cases e : z = 30; (subst e; have hw2 : w < 18 := hw; simp [va_up, fil, hw2]); simp [va_up, e]) ?_
        refine q_vret F hr_ dX11_copy_20 (hp_ _ _ ⟨rfl, ?_⟩)
        rfl
      · skip
        have hn_5 : k < 18 := nf_ge_f (by omega) (by omega) h_5
        refine q_aload_n F 1 dX11_copy_8 rfl ?_
        refine q_iload_n F 2 dX11_copy_9 rfl ?_
        refine q_aload_n F 0 dX11_copy_10 rfl ?_
        refine q_iload_n F 2 dX11_copy_11 rfl ?_
        refine q_iald F (f := A 21) (List.mem_append_left _ (List.mem_of_getElem? (i := 7) rfl)) k rfl (by omega) (by decide) dX11_copy_12 ?_
        refine q_iast F 10 rfl k rfl (by omega) (by decide) dX11_copy_13 (ws' := mC E a f hh (va_up A 30 (upd (fil (A 21) (A 30) k) k (A 21 k))) ++ tl) rfl ?_
        refine q_iinc F 2 (v := nI (k + 1)) (lv' := [(2, .int (nI (k + 1))), (0, .ref (a 21)), (1, .ref (a 30))]) dX11_copy_14 rfl (nI_1 _) (by decide) rfl ?_
        refine q_goto F (tgt := 2) dX11_copy_17 (by decide) ?_
        refine q_lv [1, 2, 0] (lv' := [(0, .ref (a 21)), (1, .ref (a 30)), (2, .int (nI (k + 1)))]) rfl ?_
        refine q_to (lv' := [(0, .ref (a 21)), (1, .ref (a 30)), (2, .int (nI (k + 1)))]) (st' := []) (ws' := mC E a f hh (va_up A 30 (fil (A 21) (A 30) (k + 1))) ++ tl) rfl rfl (by simp only [fil_s]) ?_
        exact ih_2 (k + 1) (by omega) (by omega)
  refine q_lv [1, 2, 0] (lv' := [(0, .ref (a 21)), (1, .ref (a 30)), (2, .int (nI 0))]) rfl ?_
  refine q_to (lv' := [(0, .ref (a 21)), (1, .ref (a 30)), (2, .int (nI 0))]) (st' := []) (ws' := mC E a f hh (va_up A 30 (fil (A 21) (A 30) 0)) ++ tl) rfl rfl (by simp only [fil_0]; rfl) ?_
  exact lb2 (18 - 0 + 1) 0 (by omega) (Nat.lt_succ_self _)

set_option maxHeartbeats 4000000 in
set_option maxRecDepth 100000 in
theorem c_X11_copy_29_7 (l : Launch) (E : gEnv) (a : Nat → Nat) (f : Nat → Int32) (hh : Int64) (A : Nat → Nat → Int32) (tl : va_W) : Cn l E yX11_copy wsX11_copy (rmL 0 0 0) [.ref (a 29), .ref (a 7)] (mC E a f hh A ++ tl) 0 0 (fun v w => v = none ∧ w = mC E a f hh (va_up A 7 (A 29)) ++ tl) := by
  refine Cn.of (own := RX11) (cc := cX11_copy) (maxL := 3) (ret := none) (lv := [(0, .ref (a 29)), (1, .ref (a 7))]) (by decide) rfl rfl (Nat.le_of_ble_eq_true rfl) rfl ?_
  intro p_ e_ s_ m_ args_ below_ meth_ c_ A_ P_ hp_ F hr_ hnm_
  refine q_iconst F dX11_copy_0 (v := nI 0) (by decide) ?_
  refine q_istore_n F (lv' := [(2, .int (nI 0)), (0, .ref (a 29)), (1, .ref (a 7))]) dX11_copy_1 (by decide) rfl ?_
  have lb2 : ∀ (fu : Nat) (k : Nat) (hk : k ≤ 48), 48 - k < fu → gW p_ l e_ (rmL 0 0 0) s_ m_ args_ below_ meth_ c_ E A_ 3 (MQ below_ (gQ E A_ P_) args_ s_ 0 0 A_) 2 [(0, .ref (a 29)), (1, .ref (a 7)), (2, .int (nI k))] [] (mC E a f hh (va_up A 7 (fil (A 29) (A 7) k)) ++ tl) 0 0 := by
    intro fu_2
    induction fu_2 with
    | zero => intro k hk hfu; exact absurd hfu (Nat.not_lt_zero _)
    | succ fu_2 ih_2 =>
      intro k hk hfu_2
      refine q_iload_n F 2 dX11_copy_2 rfl ?_
      refine q_aload_n F 0 dX11_copy_3 rfl ?_
      refine q_alen F (v := nI 48) (List.mem_append_left _ (List.mem_of_getElem? (i := 9) rfl)) rfl dX11_copy_4 ?_
      refine q_icmp_ge F (tgt := 20) dX11_copy_5 (by decide) (fun h_5 => ?_) (fun h_5 => ?_)
      · skip
        have hn_5 : k ≥ 48 := nf_ge_t (by omega) (by omega) h_5
        obtain rfl : k = 48 := by omega
        refine q_mB (va_up A 7 (A 29)) (by intro z w hw; by_cases e : z = 7; (subst e; have hw2 : w < 48 := hw; simp [va_up, fil, hw2]); simp [va_up, e]) ?_
        refine q_vret F hr_ dX11_copy_20 (hp_ _ _ ⟨rfl, ?_⟩)
        rfl
      · skip
        have hn_5 : k < 48 := nf_ge_f (by omega) (by omega) h_5
        refine q_aload_n F 1 dX11_copy_8 rfl ?_
        refine q_iload_n F 2 dX11_copy_9 rfl ?_
        refine q_aload_n F 0 dX11_copy_10 rfl ?_
        refine q_iload_n F 2 dX11_copy_11 rfl ?_
        refine q_iald F (f := A 29) (List.mem_append_left _ (List.mem_of_getElem? (i := 9) rfl)) k rfl (by omega) (by decide) dX11_copy_12 ?_
        refine q_iast F 2 rfl k rfl (by omega) (by decide) dX11_copy_13 (ws' := mC E a f hh (va_up A 7 (upd (fil (A 29) (A 7) k) k (A 29 k))) ++ tl) rfl ?_
        refine q_iinc F 2 (v := nI (k + 1)) (lv' := [(2, .int (nI (k + 1))), (0, .ref (a 29)), (1, .ref (a 7))]) dX11_copy_14 rfl (nI_1 _) (by decide) rfl ?_
        refine q_goto F (tgt := 2) dX11_copy_17 (by decide) ?_
        refine q_lv [1, 2, 0] (lv' := [(0, .ref (a 29)), (1, .ref (a 7)), (2, .int (nI (k + 1)))]) rfl ?_
        refine q_to (lv' := [(0, .ref (a 29)), (1, .ref (a 7)), (2, .int (nI (k + 1)))]) (st' := []) (ws' := mC E a f hh (va_up A 7 (fil (A 29) (A 7) (k + 1))) ++ tl) rfl rfl (by simp only [fil_s]) ?_
        exact ih_2 (k + 1) (by omega) (by omega)
  refine q_lv [1, 2, 0] (lv' := [(0, .ref (a 29)), (1, .ref (a 7)), (2, .int (nI 0))]) rfl ?_
  refine q_to (lv' := [(0, .ref (a 29)), (1, .ref (a 7)), (2, .int (nI 0))]) (st' := []) (ws' := mC E a f hh (va_up A 7 (fil (A 29) (A 7) 0)) ++ tl) rfl rfl (by simp only [fil_0]; rfl) ?_
  exact lb2 (48 - 0 + 1) 0 (by omega) (Nat.lt_succ_self _)

set_option maxHeartbeats 4000000 in
set_option maxRecDepth 100000 in
theorem c_X11_copy_30_21 (l : Launch) (E : gEnv) (a : Nat → Nat) (f : Nat → Int32) (hh : Int64) (A : Nat → Nat → Int32) (tl : va_W) : Cn l E yX11_copy wsX11_copy (rmL 0 0 0) [.ref (a 30), .ref (a 21)] (mC E a f hh A ++ tl) 0 0 (fun v w => v = none ∧ w = mC E a f hh (va_up A 21 (A 30)) ++ tl) := by
  refine Cn.of (own := RX11) (cc := cX11_copy) (maxL := 3) (ret := none) (lv := [(0, .ref (a 30)), (1, .ref (a 21))]) (by decide) rfl rfl (Nat.le_of_ble_eq_true rfl) rfl ?_
  intro p_ e_ s_ m_ args_ below_ meth_ c_ A_ P_ hp_ F hr_ hnm_
  refine q_iconst F dX11_copy_0 (v := nI 0) (by decide) ?_
  refine q_istore_n F (lv' := [(2, .int (nI 0)), (0, .ref (a 30)), (1, .ref (a 21))]) dX11_copy_1 (by decide) rfl ?_
  have lb2 : ∀ (fu : Nat) (k : Nat) (hk : k ≤ 18), 18 - k < fu → gW p_ l e_ (rmL 0 0 0) s_ m_ args_ below_ meth_ c_ E A_ 3 (MQ below_ (gQ E A_ P_) args_ s_ 0 0 A_) 2 [(0, .ref (a 30)), (1, .ref (a 21)), (2, .int (nI k))] [] (mC E a f hh (va_up A 21 (fil (A 30) (A 21) k)) ++ tl) 0 0 := by
    intro fu_2
    induction fu_2 with
    | zero => intro k hk hfu; exact absurd hfu (Nat.not_lt_zero _)
    | succ fu_2 ih_2 =>
      intro k hk hfu_2
      refine q_iload_n F 2 dX11_copy_2 rfl ?_
      refine q_aload_n F 0 dX11_copy_3 rfl ?_
      refine q_alen F (v := nI 18) (List.mem_append_left _ (List.mem_of_getElem? (i := 10) rfl)) rfl dX11_copy_4 ?_
      refine q_icmp_ge F (tgt := 20) dX11_copy_5 (by decide) (fun h_5 => ?_) (fun h_5 => ?_)
      · skip
        have hn_5 : k ≥ 18 := nf_ge_t (by omega) (by omega) h_5
        obtain rfl : k = 18 := by omega
        refine q_mB (va_up A 21 (A 30)) (by intro z w hw; by_cases e : z = 21; (subst e; have hw2 : w < 18 := hw; simp [va_up, fil, hw2]); simp [va_up, e]) ?_
        refine q_vret F hr_ dX11_copy_20 (hp_ _ _ ⟨rfl, ?_⟩)
        rfl
      · skip
        have hn_5 : k < 18 := nf_ge_f (by omega) (by omega) h_5
        refine q_aload_n F 1 dX11_copy_8 rfl ?_
        refine q_iload_n F 2 dX11_copy_9 rfl ?_
        refine q_aload_n F 0 dX11_copy_10 rfl ?_
        refine q_iload_n F 2 dX11_copy_11 rfl ?_
        refine q_iald F (f := A 30) (List.mem_append_left _ (List.mem_of_getElem? (i := 10) rfl)) k rfl (by omega) (by decide) dX11_copy_12 ?_
        refine q_iast F 7 rfl k rfl (by omega) (by decide) dX11_copy_13 (ws' := mC E a f hh (va_up A 21 (upd (fil (A 30) (A 21) k) k (A 30 k))) ++ tl) rfl ?_
        refine q_iinc F 2 (v := nI (k + 1)) (lv' := [(2, .int (nI (k + 1))), (0, .ref (a 30)), (1, .ref (a 21))]) dX11_copy_14 rfl (nI_1 _) (by decide) rfl ?_
        refine q_goto F (tgt := 2) dX11_copy_17 (by decide) ?_
        refine q_lv [1, 2, 0] (lv' := [(0, .ref (a 30)), (1, .ref (a 21)), (2, .int (nI (k + 1)))]) rfl ?_
        refine q_to (lv' := [(0, .ref (a 30)), (1, .ref (a 21)), (2, .int (nI (k + 1)))]) (st' := []) (ws' := mC E a f hh (va_up A 21 (fil (A 30) (A 21) (k + 1))) ++ tl) rfl rfl (by simp only [fil_s]) ?_
        exact ih_2 (k + 1) (by omega) (by omega)
  refine q_lv [1, 2, 0] (lv' := [(0, .ref (a 30)), (1, .ref (a 21)), (2, .int (nI 0))]) rfl ?_
  refine q_to (lv' := [(0, .ref (a 30)), (1, .ref (a 21)), (2, .int (nI 0))]) (st' := []) (ws' := mC E a f hh (va_up A 21 (fil (A 30) (A 21) 0)) ++ tl) rfl rfl (by simp only [fil_0]; rfl) ?_
  exact lb2 (18 - 0 + 1) 0 (by omega) (Nat.lt_succ_self _)

set_option maxHeartbeats 4000000 in
set_option maxRecDepth 100000 in
theorem c_X11_layWho (l : Launch) (E : gEnv) (a : Nat → Nat) (f : Nat → Int32) (hh : Int64) (A : Nat → Nat → Int32) (tl : va_W) (T : gTown) (hm : f 2 = nI (tN T)) (hn : tN T ≤ 6) (b : Nat → Bool) : Cn l E yX11_layWho wsX11_layWho (rmL 0 0 0) [.ref (a 32), .int (wb b 6)] (mC E a f hh A ++ tl) 0 0 (fun v w => v = none ∧ w = mC E a (upd f 15 (nI (cnt b (tN T)))) hh (va_up A 14 (whA b (A 14) (tN T))) ++ tl) := by
  refine Cn.of (own := RX11) (cc := cX11_layWho) (maxL := 3) (ret := none) (lv := [(0, .ref (a 32)), (1, .int (wb b 6))]) (by decide) rfl rfl (Nat.le_of_ble_eq_true rfl) rfl ?_
  intro p_ e_ s_ m_ args_ below_ meth_ c_ A_ P_ hp_ F hr_ hnm_
  have hf141_11 : Cond.fieldLink RX11 141 "KeyOnStreetModel" (TX11 15).2.1 (TX11 15).2.2.1 ∈ wsX11_layWho := by decide +kernel
  have hi11 : ∀ w ∈ u_ws RX11 TX11 32, w ∈ wsX11_layWho := by decide +kernel
  have hf67_11 : Cond.fieldLink RX11 67 "KeyOnStreetModel" (TX11 2).2.1 (TX11 2).2.2.1 ∈ wsX11_layWho := by decide +kernel
  have hf25_11 : Cond.fieldLink RX11 25 "KeyOnStreetModel" (TX11 14).2.1 (TX11 14).2.2.1 ∈ wsX11_layWho := by decide +kernel
  refine q_aload_n F 0 dX11_layWho_0 rfl ?_
  refine q_iconst F dX11_layWho_1 (v := nI 0) (by decide) ?_
  refine q_put F (j := 15) 0 rfl rfl hi11 tyX11 tyX11_ok nmX11 (by decide) hf141_11 rfl rfl rfl rfl (Nat.le_of_ble_eq_true rfl) dX11_layWho_2 (ws' := mC E a (upd f 15 (nI 0)) hh A ++ tl) rfl ?_
  refine q_iconst F dX11_layWho_5 (v := nI 0) (by decide) ?_
  refine q_istore_n F (lv' := [(2, .int (nI 0)), (0, .ref (a 32)), (1, .int (wb b 6))]) dX11_layWho_6 (by decide) rfl ?_
  have lb7 : ∀ (fu : Nat) (i : Nat) (hi : i ≤ tN T), tN T - i < fu → gW p_ l e_ (rmL 0 0 0) s_ m_ args_ below_ meth_ c_ E A_ 3 (MQ below_ (gQ E A_ P_) args_ s_ 0 0 A_) 7 [(0, .ref (a 32)), (1, .int (wb b 6)), (2, .int (nI i))] [] (mC E a (upd f 15 (nI (cnt b i))) hh (va_up A 14 (whA b (A 14) i)) ++ tl) 0 0 := by
    intro fu_7
    induction fu_7 with
    | zero => intro i hi hfu; exact absurd hfu (Nat.not_lt_zero _)
    | succ fu_7 ih_7 =>
      intro i hi hfu_7
      refine q_iload_n F 2 dX11_layWho_7 rfl ?_
      refine q_aload_n F 0 dX11_layWho_8 rfl ?_
      refine q_get F (ci := 11) (j := 2) (v := .int (f 2)) (List.mem_append_left _ (List.mem_of_getElem? (i := 0) rfl)) rfl hi11 (by decide) hf67_11 rfl rfl dX11_layWho_9 ?_
      refine q_toi (nI (tN T)) (hm) ?_
      refine q_icmp_ge F (tgt := 50) dX11_layWho_12 (by decide) (fun h_12 => ?_) (fun h_12 => ?_)
      · skip
        have hn_12 : i ≥ (tN T) := nf_ge_t (by omega) (by omega) h_12
        refine q_vret F hr_ dX11_layWho_50 (hp_ _ _ ⟨rfl, ?_⟩)
        (have e6 : i = tN T := by omega); rw [e6]
      · skip
        have hn_12 : i < (tN T) := nf_ge_f (by omega) (by omega) h_12
        refine q_iload_n F 1 dX11_layWho_15 rfl ?_
        refine q_iload_n F 2 dX11_layWho_16 rfl ?_
        refine q_ishr F dX11_layWho_17 ?_
        refine q_iconst F dX11_layWho_18 (v := nI 1) (by decide) ?_
        refine q_iand F dX11_layWho_19 ?_
        refine q_iconst F dX11_layWho_20 (v := nI 1) (by decide) ?_
        refine q_icmp_ne F (tgt := 44) dX11_layWho_21 (by decide) (fun h_21 => ?_) (fun h_21 => ?_)
        · skip
          have hbi : b i = false := by (cases e : b i with | false => rfl | true => exact absurd ((wb_bitI b (by omega)).mpr e) h_21)
          refine q_iinc F 2 (v := nI (i + 1)) (lv' := [(2, .int (nI (i + 1))), (0, .ref (a 32)), (1, .int (wb b 6))]) dX11_layWho_44 rfl (nI_1 _) (by decide) rfl ?_
          refine q_goto F (tgt := 7) dX11_layWho_47 (by decide) ?_
          refine q_lv [1, 2, 0] (lv' := [(0, .ref (a 32)), (1, .int (wb b 6)), (2, .int (nI (i + 1)))]) rfl ?_
          refine q_to (lv' := [(0, .ref (a 32)), (1, .int (wb b 6)), (2, .int (nI (i + 1)))]) (st' := []) (ws' := mC E a (upd f 15 (nI (cnt b (i + 1)))) hh (va_up A 14 (whA b (A 14) (i + 1))) ++ tl) rfl rfl (by simp [whA, cnt, *]) ?_
          exact ih_7 (i + 1) (by omega) (by omega)
        · skip
          have hbi : b i = true := (wb_bitI b (by omega)).mp h_21
          have hci := cnt_le b i
          refine q_aload_n F 0 dX11_layWho_24 rfl ?_
          refine q_get F (ci := 11) (j := 14) (v := .ref (a 14)) (List.mem_append_left _ (List.mem_of_getElem? (i := 0) rfl)) rfl hi11 (by decide) hf25_11 rfl rfl dX11_layWho_25 ?_
          refine q_aload_n F 0 dX11_layWho_28 rfl ?_
          refine q_get F (ci := 11) (j := 15) (v := .int (nI (cnt b i))) (List.mem_append_left _ (List.mem_of_getElem? (i := 0) rfl)) rfl hi11 (by decide) hf141_11 rfl rfl dX11_layWho_29 ?_
          refine q_iload_n F 2 dX11_layWho_32 rfl ?_
          refine q_iast F 6 rfl (cnt b i) rfl (by omega) (by decide) dX11_layWho_33 (ws' := mC E a (upd f 15 (nI (cnt b i))) hh (va_up A 14 (upd (whA b (A 14) i) (cnt b i) (nI i))) ++ tl) rfl ?_
          refine q_aload_n F 0 dX11_layWho_34 rfl ?_
          refine q_dup F dX11_layWho_35 rfl ?_
          refine q_get F (ci := 11) (j := 15) (v := .int (nI (cnt b i))) (List.mem_append_left _ (List.mem_of_getElem? (i := 0) rfl)) rfl hi11 (by decide) hf141_11 rfl rfl dX11_layWho_36 ?_
          refine q_iconst F dX11_layWho_39 (v := nI 1) (by decide) ?_
          refine q_iadd F dX11_layWho_40 ?_
          refine q_toi (nI (cnt b i + 1)) (nI_add _ _) ?_
          refine q_put F (j := 15) 0 rfl rfl hi11 tyX11 tyX11_ok nmX11 (by decide) hf141_11 rfl rfl rfl rfl (Nat.le_of_ble_eq_true rfl) dX11_layWho_41 (ws' := mC E a (upd f 15 (nI (cnt b i + 1))) hh (va_up A 14 (upd (whA b (A 14) i) (cnt b i) (nI i))) ++ tl) rfl ?_
          refine q_iinc F 2 (v := nI (i + 1)) (lv' := [(2, .int (nI (i + 1))), (0, .ref (a 32)), (1, .int (wb b 6))]) dX11_layWho_44 rfl (nI_1 _) (by decide) rfl ?_
          refine q_goto F (tgt := 7) dX11_layWho_47 (by decide) ?_
          refine q_lv [1, 2, 0] (lv' := [(0, .ref (a 32)), (1, .int (wb b 6)), (2, .int (nI (i + 1)))]) rfl ?_
          refine q_to (lv' := [(0, .ref (a 32)), (1, .int (wb b 6)), (2, .int (nI (i + 1)))]) (st' := []) (ws' := mC E a (upd f 15 (nI (cnt b (i + 1)))) hh (va_up A 14 (whA b (A 14) (i + 1))) ++ tl) rfl rfl (by simp [whA, cnt, *]) ?_
          exact ih_7 (i + 1) (by omega) (by omega)
  refine q_lv [1, 2, 0] (lv' := [(0, .ref (a 32)), (1, .int (wb b 6)), (2, .int (nI 0))]) rfl ?_
  refine q_to (lv' := [(0, .ref (a 32)), (1, .int (wb b 6)), (2, .int (nI 0))]) (st' := []) (ws' := mC E a (upd f 15 (nI (cnt b 0))) hh (va_up A 14 (whA b (A 14) 0)) ++ tl) rfl rfl (by rfl) ?_
  exact lb7 (tN T - 0 + 1) 0 (by omega) (Nat.lt_succ_self _)

set_option maxHeartbeats 4000000 in
set_option maxRecDepth 100000 in
theorem c_X11_codes (l : Launch) (E : gEnv) (a : Nat → Nat) (f : Nat → Int32) (hh : Int64) (A : Nat → Nat → Int32) (tl : va_W) (K : Nat) (h15 : f 15 = nI K) (hK : K ≤ 6) : Cn l E yX11_codes wsX11_codes (rmL 0 0 0) [.ref (a 32)] (mC E a f hh A ++ tl) 0 0 (fun v w => v = some (.int (nI (K ^ K))) ∧ w = mC E a f hh A ++ tl) := by
  refine Cn.of (own := RX11) (cc := cX11_codes) (maxL := 3) (ret := (some .int)) (lv := [(0, .ref (a 32))]) (by decide) rfl rfl (Nat.le_of_ble_eq_true rfl) rfl ?_
  intro p_ e_ s_ m_ args_ below_ meth_ c_ A_ P_ hp_ F hr_ hnm_
  have hf141_11 : Cond.fieldLink RX11 141 "KeyOnStreetModel" (TX11 15).2.1 (TX11 15).2.2.1 ∈ wsX11_codes := by decide +kernel
  have hi11 : ∀ w ∈ u_ws RX11 TX11 32, w ∈ wsX11_codes := by decide +kernel
  refine q_iconst F dX11_codes_0 (v := nI 1) (by decide) ?_
  refine q_istore_n F (lv' := [(1, .int (nI 1)), (0, .ref (a 32))]) dX11_codes_1 (by decide) rfl ?_
  refine q_iconst F dX11_codes_2 (v := nI 0) (by decide) ?_
  refine q_istore_n F (lv' := [(2, .int (nI 0)), (1, .int (nI 1)), (0, .ref (a 32))]) dX11_codes_3 (by decide) rfl ?_
  have lb4 : ∀ (fu : Nat) (i : Nat) (hi : i ≤ K), K - i < fu → gW p_ l e_ (rmL 0 0 0) s_ m_ args_ below_ meth_ c_ E A_ 3 (MQ below_ (gQ E A_ P_) args_ s_ 0 0 A_) 4 [(0, .ref (a 32)), (1, .int (nI (K ^ i))), (2, .int (nI i))] [] (mC E a f hh A ++ tl) 0 0 := by
    intro fu_4
    induction fu_4 with
    | zero => intro i hi hfu; exact absurd hfu (Nat.not_lt_zero _)
    | succ fu_4 ih_4 =>
      intro i hi hfu_4
      refine q_iload_n F 2 dX11_codes_4 rfl ?_
      refine q_aload_n F 0 dX11_codes_5 rfl ?_
      refine q_get F (ci := 11) (j := 15) (v := .int (f 15)) (List.mem_append_left _ (List.mem_of_getElem? (i := 0) rfl)) rfl hi11 (by decide) hf141_11 rfl rfl dX11_codes_6 ?_
      refine q_toi (nI K) (h15) ?_
      refine q_icmp_ge F (tgt := 25) dX11_codes_9 (by decide) (fun h_9 => ?_) (fun h_9 => ?_)
      · skip
        have hn_9 : i ≥ K := nf_ge_t (by omega) (by omega) h_9
        refine q_iload_n F 1 dX11_codes_25 rfl ?_
        refine q_iret F hr_ dX11_codes_26 (hp_ _ _ ⟨congrArg (fun z => some (Value.int z)) ?_, ?_⟩)
        · (have e6 : i = K := by omega); rw [e6]
        · rfl
      · skip
        have hn_9 : i < K := nf_ge_f (by omega) (by omega) h_9
        refine q_iload_n F 1 dX11_codes_12 rfl ?_
        refine q_aload_n F 0 dX11_codes_13 rfl ?_
        refine q_get F (ci := 11) (j := 15) (v := .int (f 15)) (List.mem_append_left _ (List.mem_of_getElem? (i := 0) rfl)) rfl hi11 (by decide) hf141_11 rfl rfl dX11_codes_14 ?_
        refine q_toi (nI K) (h15) ?_
        refine q_imul F dX11_codes_17 ?_
        refine q_toi (nI ((K ^ i) * K)) (pk_mul _ _) ?_
        refine q_istore_n F (lv' := [(1, .int (nI ((K ^ i) * K))), (0, .ref (a 32)), (2, .int (nI i))]) dX11_codes_18 (by decide) rfl ?_
        refine q_iinc F 2 (v := nI (i + 1)) (lv' := [(2, .int (nI (i + 1))), (1, .int (nI ((K ^ i) * K))), (0, .ref (a 32))]) dX11_codes_19 rfl (nI_1 _) (by decide) rfl ?_
        refine q_goto F (tgt := 4) dX11_codes_22 (by decide) ?_
        refine q_lv [2, 1, 0] (lv' := [(0, .ref (a 32)), (1, .int (nI ((K ^ i) * K))), (2, .int (nI (i + 1)))]) rfl ?_
        refine q_to (lv' := [(0, .ref (a 32)), (1, .int (nI (K ^ (i + 1)))), (2, .int (nI (i + 1)))]) (st' := []) (ws' := mC E a f hh A ++ tl) (cE (vE (rfl)) (cE (vE (congrArg Value.int (by rfl))) (cE (vE (rfl)) rfl))) rfl rfl ?_
        exact ih_4 (i + 1) (by omega) (by omega)
  refine q_lv [2, 1, 0] (lv' := [(0, .ref (a 32)), (1, .int (nI 1)), (2, .int (nI 0))]) rfl ?_
  refine q_to (lv' := [(0, .ref (a 32)), (1, .int (nI (K ^ 0))), (2, .int (nI 0))]) (st' := []) (ws' := mC E a f hh A ++ tl) (cE (vE (rfl)) (cE (vE (congrArg Value.int (by rfl))) (cE (vE (rfl)) rfl))) rfl rfl ?_
  exact lb4 (K - 0 + 1) 0 (by omega) (Nat.lt_succ_self _)

set_option maxHeartbeats 4000000 in
set_option maxRecDepth 100000 in
theorem c_X11_isOrder (l : Launch) (E : gEnv) (a : Nat → Nat) (f : Nat → Int32) (hh : Int64) (A : Nat → Nat → Int32) (tl : va_W) (K : Nat) (h15 : f 15 = nI K) (hK : K ≤ 6) (c : Nat) (hc : c < 46656) : Cn l E yX11_isOrder wsX11_isOrder (rmL 0 0 0) [.ref (a 32), .int (nI c)] (mC E a f hh A ++ tl) 0 0 (fun v w => v = some (.int (bI (isO K c))) ∧ w = mC E a f hh (va_up A 12 (odA (A 14) K c (A 12) K)) ++ tl) := by
  refine Cn.of (own := RX11) (cc := cX11_isOrder) (maxL := 5) (ret := (some .boolean)) (lv := [(0, .ref (a 32)), (1, .int (nI c))]) (by decide) rfl rfl (Nat.le_of_ble_eq_true rfl) rfl ?_
  intro p_ e_ s_ m_ args_ below_ meth_ c_ A_ P_ hp_ F hr_ hnm_
  have hf141_11 : Cond.fieldLink RX11 141 "KeyOnStreetModel" (TX11 15).2.1 (TX11 15).2.2.1 ∈ wsX11_isOrder := by decide +kernel
  have hi11 : ∀ w ∈ u_ws RX11 TX11 32, w ∈ wsX11_isOrder := by decide +kernel
  have hf19_11 : Cond.fieldLink RX11 19 "KeyOnStreetModel" (TX11 12).2.1 (TX11 12).2.2.1 ∈ wsX11_isOrder := by decide +kernel
  have hf25_11 : Cond.fieldLink RX11 25 "KeyOnStreetModel" (TX11 14).2.1 (TX11 14).2.2.1 ∈ wsX11_isOrder := by decide +kernel
  refine q_iload_n F 1 dX11_isOrder_0 rfl ?_
  refine q_istore_n F (lv' := [(2, .int (nI c)), (0, .ref (a 32)), (1, .int (nI c))]) dX11_isOrder_1 (by decide) rfl ?_
  refine q_iconst F dX11_isOrder_2 (v := nI 0) (by decide) ?_
  refine q_istore_n F (lv' := [(3, .int (nI 0)), (2, .int (nI c)), (0, .ref (a 32)), (1, .int (nI c))]) dX11_isOrder_3 (by decide) rfl ?_
  refine q_aload_n F 2 dX11_isOrder_4 rfl ?_
  refine q_get F (ci := 11) (j := 15) (v := .int (f 15)) (List.mem_append_left _ (List.mem_of_getElem? (i := 0) rfl)) rfl hi11 (by decide) hf141_11 rfl rfl dX11_isOrder_5 ?_
  refine q_toi (nI K) (h15) ?_
  refine q_iconst F dX11_isOrder_8 (v := nI 1) (by decide) ?_
  refine q_isub F dX11_isOrder_9 ?_
  refine q_istore F (lv' := [(4, .int ((nI K) - (nI 1))), (3, .int (nI 0)), (2, .int (nI c)), (0, .ref (a 32)), (1, .int (nI c))]) dX11_isOrder_10 (by decide) rfl ?_
  have lb12 : ∀ (fu : Nat) (m : Nat) (hm : m ≤ K), K - m < fu → gW p_ l e_ (rmL 0 0 0) s_ m_ args_ below_ meth_ c_ E A_ 5 (MQ below_ (gQ E A_ P_) args_ s_ 0 0 A_) 12 [(0, .ref (a 32)), (2, .int (nI (c / K ^ m))), (3, .int (sdB K c m)), (4, .int (nI (K - m) - nI 1))] [] (mC E a f hh (va_up A 12 (odA (A 14) K c (A 12) m)) ++ tl) 0 0 := by
    intro fu_12
    induction fu_12 with
    | zero => intro m hm hfu; exact absurd hfu (Nat.not_lt_zero _)
    | succ fu_12 ih_12 =>
      intro m hm hfu_12
      refine q_iload F 3 dX11_isOrder_12 rfl ?_
      refine q_if_lt F (tgt := 59) dX11_isOrder_14 (by decide) (fun h_14 => ?_) (fun h_14 => ?_)
      · skip
        have hz_14 := Int32.not_le.mpr h_14
        obtain rfl : K = m := by have := (sub1_lt (show K - m ≤ 6 by omega)).mp h_14; omega
        refine q_iload_n F 2 dX11_isOrder_59 rfl ?_
        refine q_iconst F dX11_isOrder_60 (v := nI 1) (by decide) ?_
        refine q_aload_n F 0 dX11_isOrder_61 rfl ?_
        refine q_get F (ci := 11) (j := 15) (v := .int (f 15)) (List.mem_append_left _ (List.mem_of_getElem? (i := 0) rfl)) rfl hi11 (by decide) hf141_11 rfl rfl dX11_isOrder_62 ?_
        refine q_toi (nI K) (h15) ?_
        refine q_ishl F dX11_isOrder_65 ?_
        refine q_iconst F dX11_isOrder_66 (v := nI 1) (by decide) ?_
        refine q_isub F dX11_isOrder_67 ?_
        refine q_icmp_ne F (tgt := 75) dX11_isOrder_68 (by decide) (fun h_68 => ?_) (fun h_68 => ?_)
        · skip
          refine q_iconst F dX11_isOrder_75 (v := nI 0) (by decide) ?_
          refine q_zret F hr_ (by decide) dX11_isOrder_76 (hp_ _ _ ⟨congrArg (fun z => some (Value.int z)) ?_, ?_⟩)
          · simp [isO, bI, *]
          · rfl
        · skip
          refine q_iconst F dX11_isOrder_71 (v := nI 1) (by decide) ?_
          refine q_goto F (tgt := 76) dX11_isOrder_72 (by decide) ?_
          refine q_zret F hr_ (by decide) dX11_isOrder_76 (hp_ _ _ ⟨congrArg (fun z => some (Value.int z)) ?_, ?_⟩)
          · simp [isO, bI, *]
          · rfl
      · skip
        have hz_14 := Int32.not_lt.mp h_14
        have hmK : m < K := by rcases Nat.lt_or_ge m K with q | q; exact q; exact absurd ((sub1_lt (show K - m ≤ 6 by omega)).mpr (by omega)) h_14
        have hd0 : 0 < K := by omega
        have hdg : c / K ^ m % K < K := Nat.mod_lt _ hd0
        have hq1 : c / K ^ m ≤ c := Nat.div_le_self _ _
        refine q_aload_n F 0 dX11_isOrder_17 rfl ?_
        refine q_get F (ci := 11) (j := 12) (v := .ref (a 12)) (List.mem_append_left _ (List.mem_of_getElem? (i := 0) rfl)) rfl hi11 (by decide) hf19_11 rfl rfl dX11_isOrder_18 ?_
        refine q_iload F 3 dX11_isOrder_21 rfl ?_
        refine q_toi (nI (K - m - 1)) (sub1_ix hmK) ?_
        refine q_aload_n F 0 dX11_isOrder_23 rfl ?_
        refine q_get F (ci := 11) (j := 14) (v := .ref (a 14)) (List.mem_append_left _ (List.mem_of_getElem? (i := 0) rfl)) rfl hi11 (by decide) hf25_11 rfl rfl dX11_isOrder_24 ?_
        refine q_iload_n F 1 dX11_isOrder_27 rfl ?_
        refine q_aload_n F 0 dX11_isOrder_28 rfl ?_
        refine q_get F (ci := 11) (j := 15) (v := .int (f 15)) (List.mem_append_left _ (List.mem_of_getElem? (i := 0) rfl)) rfl hi11 (by decide) hf141_11 rfl rfl dX11_isOrder_29 ?_
        refine q_toi (nI K) (h15) ?_
        refine q_irem F dX11_isOrder_32 (nI_ne0 (by omega) (by omega)) ?_
        refine q_toi (nI ((c / K ^ m) % K)) (pk_rem (by omega) (by omega) (by omega)) ?_
        refine q_iald F (f := A 14) (List.mem_append_left _ (List.mem_of_getElem? (i := 6) rfl)) ((c / K ^ m) % K) rfl (by omega) (by decide) dX11_isOrder_33 ?_
        refine q_iast F 4 rfl (K - m - 1) rfl (by omega) (by decide) dX11_isOrder_34 (ws' := mC E a f hh (va_up A 12 (upd (odA (A 14) K c (A 12) m) (K - m - 1) (A 14 ((c / K ^ m) % K)))) ++ tl) rfl ?_
        refine q_iload_n F 2 dX11_isOrder_35 rfl ?_
        refine q_iconst F dX11_isOrder_36 (v := nI 1) (by decide) ?_
        refine q_iload_n F 1 dX11_isOrder_37 rfl ?_
        refine q_aload_n F 0 dX11_isOrder_38 rfl ?_
        refine q_get F (ci := 11) (j := 15) (v := .int (f 15)) (List.mem_append_left _ (List.mem_of_getElem? (i := 0) rfl)) rfl hi11 (by decide) hf141_11 rfl rfl dX11_isOrder_39 ?_
        refine q_toi (nI K) (h15) ?_
        refine q_irem F dX11_isOrder_42 (nI_ne0 (by omega) (by omega)) ?_
        refine q_toi (nI ((c / K ^ m) % K)) (pk_rem (by omega) (by omega) (by omega)) ?_
        refine q_ishl F dX11_isOrder_43 ?_
        refine q_ior F dX11_isOrder_44 ?_
        refine q_istore_n F (lv' := [(3, .int ((sdB K c m) ||| ((nI 1) <<< ((nI ((c / K ^ m) % K)) &&& 31)))), (0, .ref (a 32)), (2, .int (nI (c / K ^ m))), (4, .int (nI (K - m) - nI 1))]) dX11_isOrder_45 (by decide) rfl ?_
        refine q_iload_n F 2 dX11_isOrder_46 rfl ?_
        refine q_aload_n F 1 dX11_isOrder_47 rfl ?_
        refine q_get F (ci := 11) (j := 15) (v := .int (f 15)) (List.mem_append_left _ (List.mem_of_getElem? (i := 0) rfl)) rfl hi11 (by decide) hf141_11 rfl rfl dX11_isOrder_48 ?_
        refine q_toi (nI K) (h15) ?_
        refine q_idiv F dX11_isOrder_51 (nI_ne0 (by omega) (by omega)) ?_
        refine q_toi (nI ((c / K ^ m) / K)) (pk_div (by omega) (by omega) (by omega)) ?_
        refine q_toi (nI (c / K ^ (m + 1))) (by rw [Nat.pow_succ, Nat.div_div_eq_div_mul]) ?_
        refine q_istore_n F (lv' := [(2, .int (nI (c / K ^ (m + 1)))), (3, .int ((sdB K c m) ||| ((nI 1) <<< ((nI ((c / K ^ m) % K)) &&& 31)))), (0, .ref (a 32)), (4, .int (nI (K - m) - nI 1))]) dX11_isOrder_52 (by decide) rfl ?_
        refine q_iinc F 3 (v := nI (K - (m + 1)) - nI 1) (lv' := [(4, .int (nI (K - (m + 1)) - nI 1)), (2, .int (nI (c / K ^ (m + 1)))), (3, .int ((sdB K c m) ||| ((nI 1) <<< ((nI ((c / K ^ m) % K)) &&& 31)))), (0, .ref (a 32))]) dX11_isOrder_53 rfl (sub1_dec hK hmK) (by decide) rfl ?_
        refine q_goto F (tgt := 12) dX11_isOrder_56 (by decide) ?_
        refine q_lv [3, 1, 2, 0] (lv' := [(0, .ref (a 32)), (2, .int (nI (c / K ^ (m + 1)))), (3, .int ((sdB K c m) ||| ((nI 1) <<< ((nI ((c / K ^ m) % K)) &&& 31)))), (4, .int (nI (K - (m + 1)) - nI 1))]) rfl ?_
        refine q_to (lv' := [(0, .ref (a 32)), (2, .int (nI (c / K ^ (m + 1)))), (3, .int (sdB K c (m + 1))), (4, .int (nI (K - (m + 1)) - nI 1))]) (st' := []) (ws' := mC E a f hh (va_up A 12 (odA (A 14) K c (A 12) (m + 1))) ++ tl) (cE (vE (rfl)) (cE (vE (rfl)) (cE (vE (congrArg Value.int (by rfl))) (cE (vE (rfl)) rfl)))) rfl (by rfl) ?_
        exact ih_12 (m + 1) (by omega) (by omega)
  refine q_lv [3, 2, 1, 0] (lv' := [(0, .ref (a 32)), (2, .int (nI c)), (3, .int (nI 0)), (4, .int ((nI K) - (nI 1)))]) rfl ?_
  refine q_to (lv' := [(0, .ref (a 32)), (2, .int (nI (c / K ^ 0))), (3, .int (sdB K c 0)), (4, .int (nI (K - 0) - nI 1))]) (st' := []) (ws' := mC E a f hh (va_up A 12 (odA (A 14) K c (A 12) 0)) ++ tl) (cE (vE (rfl)) (cE (vE (congrArg Value.int (by rw [Nat.pow_zero, Nat.div_one]))) (cE (vE (congrArg Value.int (by rfl))) (cE (vE (congrArg Value.int (by rfl))) rfl)))) rfl (by rfl) ?_
  exact lb12 (K - 0 + 1) 0 (by omega) (Nat.lt_succ_self _)
