/-! guess, nights, by the reference -/
theorem sub1_30 {n : Nat} (h : n ≤ 30) : (nI n - nI 1 < 0) ↔ n = 0 := by
  have key : ∀ a : Fin 31, (decide (nI a.val - nI 1 < 0)) = decide (a.val = 0) := by decide +kernel
  have e := key ⟨n, by omega⟩
  exact ⟨fun q => of_decide_eq_true (by rw [← e]; exact decide_eq_true q), fun q => of_decide_eq_true (by rw [e]; exact decide_eq_true q)⟩
theorem sub1_d30 (c : Nat) : nI c + Int32.ofInt (-1) = nI c - nI 1 := by rw [Int32.sub_eq_add_neg, show Int32.ofInt (-1) = -(nI 1) by decide]
/-- the going of a guess -/
def guG (T : gTown) (r : Nat → Int32) (c : Nat) : gGo := goR T (c % 3) (sF r) 6 (shB T r, nI (c / 3), nI 0, nI 0, nI 0, fun _ => (-1))
/-- whether a sight is so: in by, sights, which -/
def sgW (ib s : Nat → Int32) (sh : Nat → Nat) (k : Nat) : Bool := !decide (ib (sh k) = (-1)) && !decide (s (3 * k + 1) < ib (sh k))
def asR (ib s : Nat → Int32) (sh : Nat → Nat) : Nat → Bool
  | 0 => true
  | k + 1 => asR ib s sh k && (sgW ib s sh k == decide (s (3 * k + 2) = nI 1))
def guB (T : gTown) (r s : Nat → Int32) (sh : Nat → Nat) (sk c : Nat) : Bool := asR (guG T r c).2.2.2.2.2 s sh sk
/-- of the last m codes: how many, and the least -/
def guC (T : gTown) (r s : Nat → Int32) (sh : Nat → Nat) (sk : Nat) : Nat → Int32
  | 0 => nI 0
  | m + 1 => guC T r s sh sk m + bI (guB T r s sh sk (29 - m))
def guL (T : gTown) (r s : Nat → Int32) (sh : Nat → Nat) (sk : Nat) : Nat → Int32
  | 0 => (-1)
  | m + 1 => if guB T r s sh sk (29 - m) then nI (29 - m) else guL T r s sh sk m
theorem bI_inj {x y : Bool} : bI x = bI y ↔ x = y := by cases x <;> cases y <;> decide
/-- a drawn night: the rows' since, house by house, and the seed -/
def ntR (r0 : Nat → Int32) (s0 : Int32) : Nat → (Nat → Int32) × Int32
  | 0 => (r0, s0)
  | i + 1 => (upd (ntR r0 s0 i).1 (8 * i + 4) (if drN (ntR r0 s0 i).2 2 = 1 then nI 0 else (-1)), sdN (ntR r0 s0 i).2)
theorem ntR_lo (r0 : Nat → Int32) (s0 : Int32) {k : Nat} (hk : k % 8 < 4) : ∀ i, (ntR r0 s0 i).1 k = r0 k
  | 0 => rfl
  | i + 1 => by rw [ntR]; show upd _ _ _ k = _; rw [pk_un (by omega), ntR_lo r0 s0 hk i]
theorem ntR_rows {T : gTown} {r0 : Nat → Int32} (h : rowsOf r0 T) (s0 : Int32) (i : Nat) : rowsOf (ntR r0 s0 i).1 T := fun j hj => by
  rw [ntR_lo r0 s0 (by omega), ntR_lo r0 s0 (by omega), ntR_lo r0 s0 (by omega), ntR_lo r0 s0 (by omega)]
  exact h j hj
/-- rows, seed, place, late behind k drawn nights -/
abbrev gNs : Type := (Nat → Int32) × Int32 × Int32 × Int32
def ntG (T : gTown) (z : gNs) : gGo := goR T (drN (ntR z.1 z.2.1 (tN T)).2 3) (sF (ntR z.1 z.2.1 (tN T)).1) 6 (shB T (ntR z.1 z.2.1 (tN T)).1, z.2.2.1, nI 0, nI 0, nI 0, fun _ => (-1))
def ntS (T : gTown) (z : gNs) : gNs := ((ntR z.1 z.2.1 (tN T)).1, sdN (ntR z.1 z.2.1 (tN T)).2, (ntG T z).2.1, z.2.2.2 + (ntG T z).2.2.2.2.1)
def ntF (T : gTown) (z0 : gNs) : Nat → gNs
  | 0 => z0
  | k + 1 => ntS T (ntF T z0 k)
set_option maxHeartbeats 4000000 in
set_option maxRecDepth 100000 in
theorem c_X11_guessOf (l : Launch) (E : gEnv) (a : Nat → Nat) (f : Nat → Int32) (hh : Int64) (A : Nat → Nat → Int32) (tl : va_W) (T : gTown) (hm : f 2 = nI (tN T)) (hn : tN T ≤ 6) (hR : rowsOf (A 7) T) (hO : okT T) (sk : Nat) (h20 : f 20 = nI sk) (hsk : sk ≤ 6) (sh : Nat → Nat) (hsh : ∀ k, k < sk → A 21 (3 * k) = nI (sh k) ∧ sh k < 6) (x : Int32) : Cn l E yX11_guessOf wsX11_guessOf (rmL 4 0 0) [.ref (a 32), .int x] (mC E a f hh A ++ tl) 0 0 (scP E a f hh A tl (if x = 0 then guC T (A 7) (A 21) sh sk 30 else guL T (A 7) (A 21) sh sk 30)) := by
  refine Cn.of (own := RX11) (cc := cX11_guessOf) (maxL := 10) (ret := (some .int)) (lv := [(0, .ref (a 32)), (1, .int x)]) (by decide) rfl rfl (Nat.le_of_ble_eq_true rfl) rfl ?_
  intro p_ e_ s_ m_ args_ below_ meth_ c_ A_ P_ hp_ F hr_ hnm_
  have hf102_11 : Cond.fieldLink RX11 102 "KeyOnStreetModel" (TX11 8).2.1 (TX11 8).2.2.1 ∈ wsX11_guessOf := by decide +kernel
  have hi11 : ∀ w ∈ u_ws RX11 TX11 32, w ∈ wsX11_guessOf := by decide +kernel
  have hf105_11 : Cond.fieldLink RX11 105 "KeyOnStreetModel" (TX11 9).2.1 (TX11 9).2.2.1 ∈ wsX11_guessOf := by decide +kernel
  have hf108_11 : Cond.fieldLink RX11 108 "KeyOnStreetModel" (TX11 10).2.1 (TX11 10).2.2.1 ∈ wsX11_guessOf := by decide +kernel
  have hd_X11_shutBits : yX11_shutBits.cls = RX11 ∧ yX11_shutBits.cls ≠ "java/lang/invoke/MethodHandle" ∧ yX11_shutBits.cls ≠ "java/lang/invoke/VarHandle" ∧ (parseMethodDescriptor yX11_shutBits.desc).map (fun d => d.parameters.length) = some 0 := by decide +kernel
  have hd_X11_goesBy : yX11_goesBy.cls = RX11 ∧ yX11_goesBy.cls ≠ "java/lang/invoke/MethodHandle" ∧ yX11_goesBy.cls ≠ "java/lang/invoke/VarHandle" ∧ (parseMethodDescriptor yX11_goesBy.desc).map (fun d => d.parameters.length) = some 2 := by decide +kernel
  have hf79_11 : Cond.fieldLink RX11 79 "KeyOnStreetModel" (TX11 20).2.1 (TX11 20).2.2.1 ∈ wsX11_guessOf := by decide +kernel
  have hf16_11 : Cond.fieldLink RX11 16 "KeyOnStreetModel" (TX11 11).2.1 (TX11 11).2.2.1 ∈ wsX11_guessOf := by decide +kernel
  have hf28_11 : Cond.fieldLink RX11 28 "KeyOnStreetModel" (TX11 21).2.1 (TX11 21).2.2.1 ∈ wsX11_guessOf := by decide +kernel
  refine q_iconst F dX11_guessOf_0 (v := nI 0) (by decide) ?_
  refine q_istore_n F (lv' := [(2, .int (nI 0)), (0, .ref (a 32)), (1, .int x)]) dX11_guessOf_1 (by decide) rfl ?_
  refine q_iconst F dX11_guessOf_2 (v := (-1)) (by decide) ?_
  refine q_istore_n F (lv' := [(3, .int (-1)), (2, .int (nI 0)), (0, .ref (a 32)), (1, .int x)]) dX11_guessOf_3 (by decide) rfl ?_
  refine q_bipush F dX11_guessOf_4 (v := nI 29) (by decide) ?_
  refine q_istore F (lv' := [(4, .int (nI 29)), (3, .int (-1)), (2, .int (nI 0)), (0, .ref (a 32)), (1, .int x)]) dX11_guessOf_6 (by decide) rfl ?_
  have lb8 : ∀ (fu : Nat) (m : Nat) (f9 : Nat → Int32) (A9 : Nat → Nat → Int32) (hm30 : m ≤ 30) (hkf : kpF f f9) (hka : kpA A A9), 30 - m < fu → gW p_ l e_ (rmL 4 0 0) s_ m_ args_ below_ meth_ c_ E A_ 10 (MQ below_ (gQ E A_ P_) args_ s_ 0 0 A_) 8 [(0, .ref (a 32)), (1, .int x), (2, .int (guC T (A 7) (A 21) sh sk m)), (3, .int (guL T (A 7) (A 21) sh sk m)), (4, .int (nI (30 - m) - nI 1))] [] (mC E a f9 hh A9 ++ tl) 0 0 := by
    intro fu_8
    induction fu_8 with
    | zero => intro m f9 A9 hm30 hkf hka hfu; exact absurd hfu (Nat.not_lt_zero _)
    | succ fu_8 ih_8 =>
      intro m f9 A9 hm30 hkf hka hfu_8
      refine q_iload F 4 dX11_guessOf_8 rfl ?_
      refine q_if_lt F (tgt := 179) dX11_guessOf_10 (by decide) (fun h_10 => ?_) (fun h_10 => ?_)
      · skip
        have hz_10 := Int32.not_le.mpr h_10
        obtain rfl : m = 30 := by have := (sub1_30 (show 30 - m ≤ 30 by omega)).mp h_10; omega
        refine q_iload_n F 1 dX11_guessOf_179 rfl ?_
        refine q_if_ne F (tgt := 187) dX11_guessOf_180 (by decide) (fun h_180 => ?_) (fun h_180 => ?_)
        · skip
          refine q_iload_n F 3 dX11_guessOf_187 rfl ?_
          refine q_iret F hr_ dX11_guessOf_188 (hp_ _ _ ⟨congrArg (fun z => some (Value.int z)) ?_, f9, A9, rfl, hkf, hka⟩)
          rw [if_neg h_180]
        · skip
          refine q_iload_n F 2 dX11_guessOf_183 rfl ?_
          refine q_goto F (tgt := 188) dX11_guessOf_184 (by decide) ?_
          refine q_iret F hr_ dX11_guessOf_188 (hp_ _ _ ⟨congrArg (fun z => some (Value.int z)) ?_, f9, A9, rfl, hkf, hka⟩)
          rw [if_pos h_180]
      · skip
        have hz_10 := Int32.not_lt.mp h_10
        have hm30 : m < 30 := by rcases Nat.lt_or_ge m 30 with q | q; exact q; exact absurd ((sub1_30 (show 30 - m ≤ 30 by omega)).mpr (by omega)) h_10
        refine q_to (lv' := [(0, .ref (a 32)), (1, .int x), (2, .int (guC T (A 7) (A 21) sh sk m)), (3, .int (guL T (A 7) (A 21) sh sk m)), (4, .int (nI (29 - m)))]) (st' := []) (ws' := mC E a f9 hh A9 ++ tl) (cE (vE rfl) (cE (vE rfl) (cE (vE rfl) (cE (vE rfl) (cE (vE (congrArg Value.int (by rw [show 30 - m = (29 - m) + 1 by omega]; exact nI_pred _))) rfl))))) rfl rfl ?_
        refine q_aload_n F 0 dX11_guessOf_13 rfl ?_
        refine q_iload F 4 dX11_guessOf_14 rfl ?_
        refine q_iconst F dX11_guessOf_16 (v := nI 3) (by decide) ?_
        refine q_idiv F dX11_guessOf_17 (nI_ne0 (by omega) (by omega)) ?_
        refine q_toi (nI ((29 - m) / 3)) (pk_div (by omega) (by omega) (by omega)) ?_
        refine q_put F (j := 8) 0 rfl rfl hi11 tyX11 tyX11_ok nmX11 (by decide) hf102_11 rfl rfl rfl rfl (Nat.le_of_ble_eq_true rfl) dX11_guessOf_18 (ws' := mC E a (upd f9 8 (nI ((29 - m) / 3))) hh A9 ++ tl) rfl ?_
        refine q_aload_n F 0 dX11_guessOf_21 rfl ?_
        refine q_iconst F dX11_guessOf_22 (v := nI 0) (by decide) ?_
        refine q_put F (j := 9) 0 rfl rfl hi11 tyX11 tyX11_ok nmX11 (by decide) hf105_11 rfl rfl rfl rfl (Nat.le_of_ble_eq_true rfl) dX11_guessOf_23 (ws' := mC E a (upd (upd f9 8 (nI ((29 - m) / 3))) 9 (nI 0)) hh A9 ++ tl) rfl ?_
        refine q_aload_n F 0 dX11_guessOf_26 rfl ?_
        refine q_iconst F dX11_guessOf_27 (v := nI 0) (by decide) ?_
        refine q_put F (j := 10) 0 rfl rfl hi11 tyX11 tyX11_ok nmX11 (by decide) hf108_11 rfl rfl rfl rfl (Nat.le_of_ble_eq_true rfl) dX11_guessOf_28 (ws' := mC E a (upd (upd (upd f9 8 (nI ((29 - m) / 3))) 9 (nI 0)) 10 (nI 0)) hh A9 ++ tl) rfl ?_
        refine q_aload_n F 0 dX11_guessOf_31 rfl ?_
        refine q_aload_n F 0 dX11_guessOf_32 rfl ?_
        refine q_callV F (ci := 11) (As := []) (rest := [.ref (a 32)]) (List.mem_append_left _ (List.mem_of_getElem? (i := 0) rfl)) rfl (c_X11_shutBits l E a (upd (upd (upd f9 8 (nI ((29 - m) / 3))) 9 (nI 0)) 10 (nI 0)) hh A9 tl T ((hkf 2 rfl).trans hm) hn ) (List.Perm.refl _) gX11_guessOf_X11_shutBits rfl rfl rfl hd_X11_shutBits ⟨by decide, by decide⟩ rfl (Nat.le_of_ble_eq_true rfl) dX11_guessOf_33 ⟨Nat.le_of_ble_eq_true rfl, Nat.le_of_ble_eq_true rfl⟩ (fun v_ w_ hvw => ?_)
        rw [hvw.1, hvw.2]
        clear hvw
        refine q_at (pc' := 36) (st' := [.int (wb (shB T (A9 7)) 6), .ref (a 32)]) (ws' := mC E a (upd (upd (upd f9 8 (nI ((29 - m) / 3))) 9 (nI 0)) 10 (nI 0)) hh A9 ++ tl) (k' := 0) (n' := 0) rfl rfl rfl rfl rfl ?_
        refine q_iload F 4 dX11_guessOf_36 rfl ?_
        refine q_iconst F dX11_guessOf_38 (v := nI 3) (by decide) ?_
        refine q_irem F dX11_guessOf_39 (nI_ne0 (by omega) (by omega)) ?_
        refine q_toi (nI ((29 - m) % 3)) (pk_rem (by omega) (by omega) (by omega)) ?_
        refine q_callV F (ci := 11) (As := [.int (wb (shB T (A9 7)) 6), .int (nI ((29 - m) % 3))]) (rest := []) (List.mem_append_left _ (List.mem_of_getElem? (i := 0) rfl)) rfl (c_X11_goesBy l E a (upd (upd (upd f9 8 (nI ((29 - m) / 3))) 9 (nI 0)) 10 (nI 0)) hh A9 tl T ((hkf 2 rfl).trans hm) hn (by rw [hka 7 rfl]; exact hR) hO (shB T (A9 7)) shB_lt ((29 - m) % 3) (Nat.mod_lt _ (by decide)) (okP_nI (by omega))) (List.Perm.refl _) gX11_guessOf_X11_goesBy rfl rfl rfl hd_X11_goesBy ⟨by decide, by decide⟩ rfl (Nat.le_of_ble_eq_true rfl) dX11_guessOf_40 ⟨Nat.le_of_ble_eq_true rfl, Nat.le_of_ble_eq_true rfl⟩ (fun v_ w_ hvw => ?_)
        rw [hvw.1, hvw.2]
        clear hvw
        refine q_at (pc' := 43) (st' := [.int ((goR T ((29 - m) % 3) (sF (A9 7)) 6 (shB T (A9 7), nI ((29 - m) / 3), nI 0, nI 0, nI 0, fun _ => (-1))).2.2.2.2.1)]) (ws' := mC E a (upd (upd (upd f9 8 ((goR T ((29 - m) % 3) (sF (A9 7)) 6 (shB T (A9 7), nI ((29 - m) / 3), nI 0, nI 0, nI 0, fun _ => (-1))).2.1)) 9 ((goR T ((29 - m) % 3) (sF (A9 7)) 6 (shB T (A9 7), nI ((29 - m) / 3), nI 0, nI 0, nI 0, fun _ => (-1))).2.2.1)) 10 ((goR T ((29 - m) % 3) (sF (A9 7)) 6 (shB T (A9 7), nI ((29 - m) / 3), nI 0, nI 0, nI 0, fun _ => (-1))).2.2.2.1)) hh (va_up A9 11 ((goR T ((29 - m) % 3) (sF (A9 7)) 6 (shB T (A9 7), nI ((29 - m) / 3), nI 0, nI 0, nI 0, fun _ => (-1))).2.2.2.2.2)) ++ tl) (k' := 0) (n' := 0) rfl rfl rfl rfl rfl ?_
        rw [show A9 7 = A 7 from hka 7 rfl]
        refine q_istore F (lv' := [(5, .int ((goR T ((29 - m) % 3) (sF (A 7)) 6 (shB T (A 7), nI ((29 - m) / 3), nI 0, nI 0, nI 0, fun _ => (-1))).2.2.2.2.1)), (0, .ref (a 32)), (1, .int x), (2, .int (guC T (A 7) (A 21) sh sk m)), (3, .int (guL T (A 7) (A 21) sh sk m)), (4, .int (nI (29 - m)))]) dX11_guessOf_43 (by decide) rfl ?_
        refine q_iconst F dX11_guessOf_45 (v := nI 1) (by decide) ?_
        refine q_istore F (lv' := [(6, .int (nI 1)), (5, .int ((goR T ((29 - m) % 3) (sF (A 7)) 6 (shB T (A 7), nI ((29 - m) / 3), nI 0, nI 0, nI 0, fun _ => (-1))).2.2.2.2.1)), (0, .ref (a 32)), (1, .int x), (2, .int (guC T (A 7) (A 21) sh sk m)), (3, .int (guL T (A 7) (A 21) sh sk m)), (4, .int (nI (29 - m)))]) dX11_guessOf_46 (by decide) rfl ?_
        refine q_iconst F dX11_guessOf_48 (v := nI 0) (by decide) ?_
        refine q_istore F (lv' := [(7, .int (nI 0)), (6, .int (nI 1)), (5, .int ((goR T ((29 - m) % 3) (sF (A 7)) 6 (shB T (A 7), nI ((29 - m) / 3), nI 0, nI 0, nI 0, fun _ => (-1))).2.2.2.2.1)), (0, .ref (a 32)), (1, .int x), (2, .int (guC T (A 7) (A 21) sh sk m)), (3, .int (guL T (A 7) (A 21) sh sk m)), (4, .int (nI (29 - m)))]) dX11_guessOf_49 (by decide) rfl ?_
        have lb51 : ∀ (fu : Nat) (k : Nat) (hk : k ≤ sk), sk - k < fu → gW p_ l e_ (rmL 4 0 0) s_ m_ args_ below_ meth_ c_ E A_ 10 (MQ below_ (gQ E A_ P_) args_ s_ 0 0 A_) 51 [(0, .ref (a 32)), (1, .int x), (2, .int (guC T (A 7) (A 21) sh sk m)), (3, .int (guL T (A 7) (A 21) sh sk m)), (4, .int (nI (29 - m))), (6, .int (bI (asR (goR T ((29 - m) % 3) (sF (A 7)) 6 (shB T (A 7), nI ((29 - m) / 3), nI 0, nI 0, nI 0, fun _ => (-1))).2.2.2.2.2 (A 21) sh k))), (7, .int (nI k))] [] (mC E a (upd (upd (upd f9 8 ((goR T ((29 - m) % 3) (sF (A 7)) 6 (shB T (A 7), nI ((29 - m) / 3), nI 0, nI 0, nI 0, fun _ => (-1))).2.1)) 9 ((goR T ((29 - m) % 3) (sF (A 7)) 6 (shB T (A 7), nI ((29 - m) / 3), nI 0, nI 0, nI 0, fun _ => (-1))).2.2.1)) 10 ((goR T ((29 - m) % 3) (sF (A 7)) 6 (shB T (A 7), nI ((29 - m) / 3), nI 0, nI 0, nI 0, fun _ => (-1))).2.2.2.1)) hh (va_up A9 11 ((goR T ((29 - m) % 3) (sF (A 7)) 6 (shB T (A 7), nI ((29 - m) / 3), nI 0, nI 0, nI 0, fun _ => (-1))).2.2.2.2.2)) ++ tl) 0 0 := by
          intro fu_51
          induction fu_51 with
          | zero => intro k hk hfu; exact absurd hfu (Nat.not_lt_zero _)
          | succ fu_51 ih_51 =>
            intro k hk hfu_51
            refine q_iload F 6 dX11_guessOf_51 rfl ?_
            refine q_aload_n F 0 dX11_guessOf_53 rfl ?_
            refine q_get F (ci := 11) (j := 20) (v := .int (f9 20)) (List.mem_append_left _ (List.mem_of_getElem? (i := 0) rfl)) rfl hi11 (by decide) hf79_11 rfl rfl dX11_guessOf_54 ?_
            refine q_toi (nI sk) ((hkf 20 rfl).trans h20) ?_
            refine q_icmp_ge F (tgt := 148) dX11_guessOf_57 (by decide) (fun h_57 => ?_) (fun h_57 => ?_)
            · skip
              have hn_57 : k ≥ sk := nf_ge_t (by omega) (by omega) h_57
              have eks : k = sk := by omega
              refine q_to (lv' := [(0, .ref (a 32)), (1, .int x), (2, .int (guC T (A 7) (A 21) sh sk m)), (3, .int (guL T (A 7) (A 21) sh sk m)), (4, .int (nI (29 - m))), (6, .int (bI (guB T (A 7) (A 21) sh sk (29 - m)))), (7, .int (nI k))]) (st' := []) (ws' := mC E a (upd (upd (upd f9 8 ((goR T ((29 - m) % 3) (sF (A 7)) 6 (shB T (A 7), nI ((29 - m) / 3), nI 0, nI 0, nI 0, fun _ => (-1))).2.1)) 9 ((goR T ((29 - m) % 3) (sF (A 7)) 6 (shB T (A 7), nI ((29 - m) / 3), nI 0, nI 0, nI 0, fun _ => (-1))).2.2.1)) 10 ((goR T ((29 - m) % 3) (sF (A 7)) 6 (shB T (A 7), nI ((29 - m) / 3), nI 0, nI 0, nI 0, fun _ => (-1))).2.2.2.1)) hh (va_up A9 11 ((goR T ((29 - m) % 3) (sF (A 7)) 6 (shB T (A 7), nI ((29 - m) / 3), nI 0, nI 0, nI 0, fun _ => (-1))).2.2.2.2.2)) ++ tl) (cE (vE rfl) (cE (vE rfl) (cE (vE rfl) (cE (vE rfl) (cE (vE rfl) (cE (vE (congrArg Value.int (by rw [eks]; rfl))) (cE (vE rfl) rfl))))))) rfl rfl ?_
              refine q_iload_n F 2 dX11_guessOf_148 rfl ?_
              refine q_iload F 5 dX11_guessOf_149 rfl ?_
              have jn159 : gW p_ l e_ (rmL 4 0 0) s_ m_ args_ below_ meth_ c_ E A_ 10 (MQ below_ (gQ E A_ P_) args_ s_ 0 0 A_) 159 [(0, .ref (a 32)), (1, .int x), (2, .int (guC T (A 7) (A 21) sh sk m)), (3, .int (guL T (A 7) (A 21) sh sk m)), (4, .int (nI (29 - m))), (6, .int (bI (guB T (A 7) (A 21) sh sk (29 - m)))), (7, .int (nI k))] [.int (bI (guB T (A 7) (A 21) sh sk (29 - m))), .int (guC T (A 7) (A 21) sh sk m)] (mC E a (upd (upd (upd f9 8 ((goR T ((29 - m) % 3) (sF (A 7)) 6 (shB T (A 7), nI ((29 - m) / 3), nI 0, nI 0, nI 0, fun _ => (-1))).2.1)) 9 ((goR T ((29 - m) % 3) (sF (A 7)) 6 (shB T (A 7), nI ((29 - m) / 3), nI 0, nI 0, nI 0, fun _ => (-1))).2.2.1)) 10 ((goR T ((29 - m) % 3) (sF (A 7)) 6 (shB T (A 7), nI ((29 - m) / 3), nI 0, nI 0, nI 0, fun _ => (-1))).2.2.2.1)) hh (va_up A9 11 ((goR T ((29 - m) % 3) (sF (A 7)) 6 (shB T (A 7), nI ((29 - m) / 3), nI 0, nI 0, nI 0, fun _ => (-1))).2.2.2.2.2)) ++ tl) 0 0 := by
                refine q_iadd F dX11_guessOf_159 ?_
                refine q_istore_n F (lv' := [(2, .int ((guC T (A 7) (A 21) sh sk m) + (bI (guB T (A 7) (A 21) sh sk (29 - m))))), (0, .ref (a 32)), (1, .int x), (3, .int (guL T (A 7) (A 21) sh sk m)), (4, .int (nI (29 - m))), (6, .int (bI (guB T (A 7) (A 21) sh sk (29 - m)))), (7, .int (nI k))]) dX11_guessOf_160 (by decide) rfl ?_
                refine q_iload F 5 dX11_guessOf_161 rfl ?_
                have jn172 : gW p_ l e_ (rmL 4 0 0) s_ m_ args_ below_ meth_ c_ E A_ 10 (MQ below_ (gQ E A_ P_) args_ s_ 0 0 A_) 172 [(2, .int ((guC T (A 7) (A 21) sh sk m) + (bI (guB T (A 7) (A 21) sh sk (29 - m))))), (0, .ref (a 32)), (1, .int x), (3, .int (guL T (A 7) (A 21) sh sk m)), (4, .int (nI (29 - m))), (6, .int (bI (guB T (A 7) (A 21) sh sk (29 - m)))), (7, .int (nI k))] [.int (guL T (A 7) (A 21) sh sk (m + 1))] (mC E a (upd (upd (upd f9 8 ((goR T ((29 - m) % 3) (sF (A 7)) 6 (shB T (A 7), nI ((29 - m) / 3), nI 0, nI 0, nI 0, fun _ => (-1))).2.1)) 9 ((goR T ((29 - m) % 3) (sF (A 7)) 6 (shB T (A 7), nI ((29 - m) / 3), nI 0, nI 0, nI 0, fun _ => (-1))).2.2.1)) 10 ((goR T ((29 - m) % 3) (sF (A 7)) 6 (shB T (A 7), nI ((29 - m) / 3), nI 0, nI 0, nI 0, fun _ => (-1))).2.2.2.1)) hh (va_up A9 11 ((goR T ((29 - m) % 3) (sF (A 7)) 6 (shB T (A 7), nI ((29 - m) / 3), nI 0, nI 0, nI 0, fun _ => (-1))).2.2.2.2.2)) ++ tl) 0 0 := by
                  refine q_istore_n F (lv' := [(3, .int (guL T (A 7) (A 21) sh sk (m + 1))), (2, .int ((guC T (A 7) (A 21) sh sk m) + (bI (guB T (A 7) (A 21) sh sk (29 - m))))), (0, .ref (a 32)), (1, .int x), (4, .int (nI (29 - m))), (6, .int (bI (guB T (A 7) (A 21) sh sk (29 - m)))), (7, .int (nI k))]) dX11_guessOf_172 (by decide) rfl ?_
                  refine q_iinc F 4 (v := nI (30 - (m + 1)) - nI 1) (lv' := [(4, .int (nI (30 - (m + 1)) - nI 1)), (3, .int (guL T (A 7) (A 21) sh sk (m + 1))), (2, .int ((guC T (A 7) (A 21) sh sk m) + (bI (guB T (A 7) (A 21) sh sk (29 - m))))), (0, .ref (a 32)), (1, .int x), (6, .int (bI (guB T (A 7) (A 21) sh sk (29 - m)))), (7, .int (nI k))]) dX11_guessOf_173 rfl (by rw [show 30 - (m + 1) = 29 - m by omega]; exact sub1_d30 _) (by decide) rfl ?_
                  refine q_goto F (tgt := 8) dX11_guessOf_176 (by decide) ?_
                  refine q_lv [3, 4, 2, 1, 0] (lv' := [(0, .ref (a 32)), (1, .int x), (2, .int ((guC T (A 7) (A 21) sh sk m) + (bI (guB T (A 7) (A 21) sh sk (29 - m))))), (3, .int (guL T (A 7) (A 21) sh sk (m + 1))), (4, .int (nI (30 - (m + 1)) - nI 1))]) rfl ?_
                  refine q_to (lv' := [(0, .ref (a 32)), (1, .int x), (2, .int (guC T (A 7) (A 21) sh sk (m + 1))), (3, .int (guL T (A 7) (A 21) sh sk (m + 1))), (4, .int (nI (30 - (m + 1)) - nI 1))]) (st' := []) (ws' := mC E a (upd (upd (upd f9 8 ((goR T ((29 - m) % 3) (sF (A 7)) 6 (shB T (A 7), nI ((29 - m) / 3), nI 0, nI 0, nI 0, fun _ => (-1))).2.1)) 9 ((goR T ((29 - m) % 3) (sF (A 7)) 6 (shB T (A 7), nI ((29 - m) / 3), nI 0, nI 0, nI 0, fun _ => (-1))).2.2.1)) 10 ((goR T ((29 - m) % 3) (sF (A 7)) 6 (shB T (A 7), nI ((29 - m) / 3), nI 0, nI 0, nI 0, fun _ => (-1))).2.2.2.1)) hh (va_up A9 11 ((goR T ((29 - m) % 3) (sF (A 7)) 6 (shB T (A 7), nI ((29 - m) / 3), nI 0, nI 0, nI 0, fun _ => (-1))).2.2.2.2.2)) ++ tl) (cE (vE (rfl)) (cE (vE (rfl)) (cE (vE (congrArg Value.int (by rfl))) (cE (vE (rfl)) (cE (vE (rfl)) rfl))))) rfl rfl ?_
                  exact ih_8 (m + 1) (upd (upd (upd f9 8 ((goR T ((29 - m) % 3) (sF (A 7)) 6 (shB T (A 7), nI ((29 - m) / 3), nI 0, nI 0, nI 0, fun _ => (-1))).2.1)) 9 ((goR T ((29 - m) % 3) (sF (A 7)) 6 (shB T (A 7), nI ((29 - m) / 3), nI 0, nI 0, nI 0, fun _ => (-1))).2.2.1)) 10 ((goR T ((29 - m) % 3) (sF (A 7)) 6 (shB T (A 7), nI ((29 - m) / 3), nI 0, nI 0, nI 0, fun _ => (-1))).2.2.2.1)) (va_up A9 11 ((goR T ((29 - m) % 3) (sF (A 7)) 6 (shB T (A 7), nI ((29 - m) / 3), nI 0, nI 0, nI 0, fun _ => (-1))).2.2.2.2.2)) (by omega) (by repeat (first | exact hkf | refine kpF_u (by decide) ?_)) (by repeat (first | exact hka | refine kpA_u (by decide) ?_)) (by omega)
                refine q_if_eq F (tgt := 171) dX11_guessOf_163 (by decide) (fun h_163 => ?_) (fun h_163 => ?_)
                · skip
                  have hb_163 := bI_0 h_163
                  refine q_iload_n F 3 dX11_guessOf_171 rfl ?_
                  refine q_toi (guL T (A 7) (A 21) sh sk (m + 1)) (by rw [guL, hb_163]; rfl) ?_
                  exact jn172
                · skip
                  have hb_163 := bI_1 h_163
                  refine q_iload F 4 dX11_guessOf_166 rfl ?_
                  refine q_goto F (tgt := 172) dX11_guessOf_168 (by decide) ?_
                  refine q_toi (guL T (A 7) (A 21) sh sk (m + 1)) (by rw [guL, hb_163]; rfl) ?_
                  exact jn172
              refine q_if_eq F (tgt := 158) dX11_guessOf_151 (by decide) (fun h_151 => ?_) (fun h_151 => ?_)
              · skip
                have hb_151 := bI_0 h_151
                refine q_iconst F dX11_guessOf_158 (v := nI 0) (by decide) ?_
                refine q_toi (bI (guB T (A 7) (A 21) sh sk (29 - m))) (by rw [hb_151]; rfl) ?_
                exact jn159
              · skip
                have hb_151 := bI_1 h_151
                refine q_iconst F dX11_guessOf_154 (v := nI 1) (by decide) ?_
                refine q_goto F (tgt := 159) dX11_guessOf_155 (by decide) ?_
                refine q_toi (bI (guB T (A 7) (A 21) sh sk (29 - m))) (by rw [hb_151]; rfl) ?_
                exact jn159
            · skip
              have hn_57 : k < sk := nf_ge_f (by omega) (by omega) h_57
              have hsk6 := (hsh k (by omega)).2
              refine q_aload_n F 0 dX11_guessOf_60 rfl ?_
              refine q_get F (ci := 11) (j := 11) (v := .ref (a 11)) (List.mem_append_left _ (List.mem_of_getElem? (i := 0) rfl)) rfl hi11 (by decide) hf16_11 rfl rfl dX11_guessOf_61 ?_
              refine q_aload_n F 0 dX11_guessOf_64 rfl ?_
              refine q_get F (ci := 11) (j := 21) (v := .ref (a 21)) (List.mem_append_left _ (List.mem_of_getElem? (i := 0) rfl)) rfl hi11 (by decide) hf28_11 rfl rfl dX11_guessOf_65 ?_
              refine q_iconst F dX11_guessOf_68 (v := nI 3) (by decide) ?_
              refine q_iload F 6 dX11_guessOf_69 rfl ?_
              refine q_imul F dX11_guessOf_71 ?_
              refine q_toi (nI (3 * k)) (pk_mul _ _) ?_
              refine q_iald F (f := A9 21) (List.mem_append_left _ (List.mem_of_getElem? (i := 7) rfl)) (3 * k) rfl (by omega) (by decide) dX11_guessOf_72 ?_
              refine q_toi (nI (sh k)) (by rw [hka 21 rfl]; exact (hsh k (by omega)).1) ?_
              refine q_iald F (f := (goR T ((29 - m) % 3) (sF (A 7)) 6 (shB T (A 7), nI ((29 - m) / 3), nI 0, nI 0, nI 0, fun _ => (-1))).2.2.2.2.2) (List.mem_append_left _ (List.mem_of_getElem? (i := 3) rfl)) (sh k) rfl (by omega) (by decide) dX11_guessOf_73 ?_
              refine q_istore F (lv' := [(8, .int (((goR T ((29 - m) % 3) (sF (A 7)) 6 (shB T (A 7), nI ((29 - m) / 3), nI 0, nI 0, nI 0, fun _ => (-1))).2.2.2.2.2) (sh k))), (0, .ref (a 32)), (1, .int x), (2, .int (guC T (A 7) (A 21) sh sk m)), (3, .int (guL T (A 7) (A 21) sh sk m)), (4, .int (nI (29 - m))), (6, .int (bI (asR (goR T ((29 - m) % 3) (sF (A 7)) 6 (shB T (A 7), nI ((29 - m) / 3), nI 0, nI 0, nI 0, fun _ => (-1))).2.2.2.2.2 (A 21) sh k))), (7, .int (nI k))]) dX11_guessOf_74 (by decide) rfl ?_
              refine q_iload F 0 dX11_guessOf_76 rfl ?_
              refine q_iconst F dX11_guessOf_78 (v := (-1)) (by decide) ?_
              have jn103 : gW p_ l e_ (rmL 4 0 0) s_ m_ args_ below_ meth_ c_ E A_ 10 (MQ below_ (gQ E A_ P_) args_ s_ 0 0 A_) 103 [(8, .int (((goR T ((29 - m) % 3) (sF (A 7)) 6 (shB T (A 7), nI ((29 - m) / 3), nI 0, nI 0, nI 0, fun _ => (-1))).2.2.2.2.2) (sh k))), (0, .ref (a 32)), (1, .int x), (2, .int (guC T (A 7) (A 21) sh sk m)), (3, .int (guL T (A 7) (A 21) sh sk m)), (4, .int (nI (29 - m))), (6, .int (bI (asR (goR T ((29 - m) % 3) (sF (A 7)) 6 (shB T (A 7), nI ((29 - m) / 3), nI 0, nI 0, nI 0, fun _ => (-1))).2.2.2.2.2 (A 21) sh k))), (7, .int (nI k))] [.int (bI (sgW (goR T ((29 - m) % 3) (sF (A 7)) 6 (shB T (A 7), nI ((29 - m) / 3), nI 0, nI 0, nI 0, fun _ => (-1))).2.2.2.2.2 (A 21) sh k))] (mC E a (upd (upd (upd f9 8 ((goR T ((29 - m) % 3) (sF (A 7)) 6 (shB T (A 7), nI ((29 - m) / 3), nI 0, nI 0, nI 0, fun _ => (-1))).2.1)) 9 ((goR T ((29 - m) % 3) (sF (A 7)) 6 (shB T (A 7), nI ((29 - m) / 3), nI 0, nI 0, nI 0, fun _ => (-1))).2.2.1)) 10 ((goR T ((29 - m) % 3) (sF (A 7)) 6 (shB T (A 7), nI ((29 - m) / 3), nI 0, nI 0, nI 0, fun _ => (-1))).2.2.2.1)) hh (va_up A9 11 ((goR T ((29 - m) % 3) (sF (A 7)) 6 (shB T (A 7), nI ((29 - m) / 3), nI 0, nI 0, nI 0, fun _ => (-1))).2.2.2.2.2)) ++ tl) 0 0 := by
                refine q_istore F (lv' := [(9, .int (bI (sgW (goR T ((29 - m) % 3) (sF (A 7)) 6 (shB T (A 7), nI ((29 - m) / 3), nI 0, nI 0, nI 0, fun _ => (-1))).2.2.2.2.2 (A 21) sh k))), (8, .int (((goR T ((29 - m) % 3) (sF (A 7)) 6 (shB T (A 7), nI ((29 - m) / 3), nI 0, nI 0, nI 0, fun _ => (-1))).2.2.2.2.2) (sh k))), (0, .ref (a 32)), (1, .int x), (2, .int (guC T (A 7) (A 21) sh sk m)), (3, .int (guL T (A 7) (A 21) sh sk m)), (4, .int (nI (29 - m))), (6, .int (bI (asR (goR T ((29 - m) % 3) (sF (A 7)) 6 (shB T (A 7), nI ((29 - m) / 3), nI 0, nI 0, nI 0, fun _ => (-1))).2.2.2.2.2 (A 21) sh k))), (7, .int (nI k))]) dX11_guessOf_103 (by decide) rfl ?_
                refine q_iload F 7 dX11_guessOf_105 rfl ?_
                have jn140 : gW p_ l e_ (rmL 4 0 0) s_ m_ args_ below_ meth_ c_ E A_ 10 (MQ below_ (gQ E A_ P_) args_ s_ 0 0 A_) 140 [(9, .int (bI (sgW (goR T ((29 - m) % 3) (sF (A 7)) 6 (shB T (A 7), nI ((29 - m) / 3), nI 0, nI 0, nI 0, fun _ => (-1))).2.2.2.2.2 (A 21) sh k))), (8, .int (((goR T ((29 - m) % 3) (sF (A 7)) 6 (shB T (A 7), nI ((29 - m) / 3), nI 0, nI 0, nI 0, fun _ => (-1))).2.2.2.2.2) (sh k))), (0, .ref (a 32)), (1, .int x), (2, .int (guC T (A 7) (A 21) sh sk m)), (3, .int (guL T (A 7) (A 21) sh sk m)), (4, .int (nI (29 - m))), (6, .int (bI (asR (goR T ((29 - m) % 3) (sF (A 7)) 6 (shB T (A 7), nI ((29 - m) / 3), nI 0, nI 0, nI 0, fun _ => (-1))).2.2.2.2.2 (A 21) sh k))), (7, .int (nI k))] [.int (bI (asR (goR T ((29 - m) % 3) (sF (A 7)) 6 (shB T (A 7), nI ((29 - m) / 3), nI 0, nI 0, nI 0, fun _ => (-1))).2.2.2.2.2 (A 21) sh (k + 1)))] (mC E a (upd (upd (upd f9 8 ((goR T ((29 - m) % 3) (sF (A 7)) 6 (shB T (A 7), nI ((29 - m) / 3), nI 0, nI 0, nI 0, fun _ => (-1))).2.1)) 9 ((goR T ((29 - m) % 3) (sF (A 7)) 6 (shB T (A 7), nI ((29 - m) / 3), nI 0, nI 0, nI 0, fun _ => (-1))).2.2.1)) 10 ((goR T ((29 - m) % 3) (sF (A 7)) 6 (shB T (A 7), nI ((29 - m) / 3), nI 0, nI 0, nI 0, fun _ => (-1))).2.2.2.1)) hh (va_up A9 11 ((goR T ((29 - m) % 3) (sF (A 7)) 6 (shB T (A 7), nI ((29 - m) / 3), nI 0, nI 0, nI 0, fun _ => (-1))).2.2.2.2.2)) ++ tl) 0 0 := by
                  refine q_istore F (lv' := [(6, .int (bI (asR (goR T ((29 - m) % 3) (sF (A 7)) 6 (shB T (A 7), nI ((29 - m) / 3), nI 0, nI 0, nI 0, fun _ => (-1))).2.2.2.2.2 (A 21) sh (k + 1)))), (9, .int (bI (sgW (goR T ((29 - m) % 3) (sF (A 7)) 6 (shB T (A 7), nI ((29 - m) / 3), nI 0, nI 0, nI 0, fun _ => (-1))).2.2.2.2.2 (A 21) sh k))), (8, .int (((goR T ((29 - m) % 3) (sF (A 7)) 6 (shB T (A 7), nI ((29 - m) / 3), nI 0, nI 0, nI 0, fun _ => (-1))).2.2.2.2.2) (sh k))), (0, .ref (a 32)), (1, .int x), (2, .int (guC T (A 7) (A 21) sh sk m)), (3, .int (guL T (A 7) (A 21) sh sk m)), (4, .int (nI (29 - m))), (7, .int (nI k))]) dX11_guessOf_140 (by decide) rfl ?_
                  refine q_iinc F 8 (v := nI (k + 1)) (lv' := [(7, .int (nI (k + 1))), (6, .int (bI (asR (goR T ((29 - m) % 3) (sF (A 7)) 6 (shB T (A 7), nI ((29 - m) / 3), nI 0, nI 0, nI 0, fun _ => (-1))).2.2.2.2.2 (A 21) sh (k + 1)))), (9, .int (bI (sgW (goR T ((29 - m) % 3) (sF (A 7)) 6 (shB T (A 7), nI ((29 - m) / 3), nI 0, nI 0, nI 0, fun _ => (-1))).2.2.2.2.2 (A 21) sh k))), (8, .int (((goR T ((29 - m) % 3) (sF (A 7)) 6 (shB T (A 7), nI ((29 - m) / 3), nI 0, nI 0, nI 0, fun _ => (-1))).2.2.2.2.2) (sh k))), (0, .ref (a 32)), (1, .int x), (2, .int (guC T (A 7) (A 21) sh sk m)), (3, .int (guL T (A 7) (A 21) sh sk m)), (4, .int (nI (29 - m)))]) dX11_guessOf_142 rfl (nI_1 _) (by decide) rfl ?_
                  refine q_goto F (tgt := 51) dX11_guessOf_145 (by decide) ?_
                  refine q_lv [4, 5, 6, 7, 8, 1, 0] (lv' := [(0, .ref (a 32)), (1, .int x), (2, .int (guC T (A 7) (A 21) sh sk m)), (3, .int (guL T (A 7) (A 21) sh sk m)), (4, .int (nI (29 - m))), (6, .int (bI (asR (goR T ((29 - m) % 3) (sF (A 7)) 6 (shB T (A 7), nI ((29 - m) / 3), nI 0, nI 0, nI 0, fun _ => (-1))).2.2.2.2.2 (A 21) sh (k + 1)))), (7, .int (nI (k + 1)))]) rfl ?_
                  refine q_to (lv' := [(0, .ref (a 32)), (1, .int x), (2, .int (guC T (A 7) (A 21) sh sk m)), (3, .int (guL T (A 7) (A 21) sh sk m)), (4, .int (nI (29 - m))), (6, .int (bI (asR (goR T ((29 - m) % 3) (sF (A 7)) 6 (shB T (A 7), nI ((29 - m) / 3), nI 0, nI 0, nI 0, fun _ => (-1))).2.2.2.2.2 (A 21) sh (k + 1)))), (7, .int (nI (k + 1)))]) (st' := []) (ws' := mC E a (upd (upd (upd f9 8 ((goR T ((29 - m) % 3) (sF (A 7)) 6 (shB T (A 7), nI ((29 - m) / 3), nI 0, nI 0, nI 0, fun _ => (-1))).2.1)) 9 ((goR T ((29 - m) % 3) (sF (A 7)) 6 (shB T (A 7), nI ((29 - m) / 3), nI 0, nI 0, nI 0, fun _ => (-1))).2.2.1)) 10 ((goR T ((29 - m) % 3) (sF (A 7)) 6 (shB T (A 7), nI ((29 - m) / 3), nI 0, nI 0, nI 0, fun _ => (-1))).2.2.2.1)) hh (va_up A9 11 ((goR T ((29 - m) % 3) (sF (A 7)) 6 (shB T (A 7), nI ((29 - m) / 3), nI 0, nI 0, nI 0, fun _ => (-1))).2.2.2.2.2)) ++ tl) rfl rfl rfl ?_
                  exact ih_51 (k + 1) (by omega) (by omega)
                refine q_if_eq F (tgt := 139) dX11_guessOf_107 (by decide) (fun h_107 => ?_) (fun h_107 => ?_)
                · skip
                  have hb_107 := bI_0 h_107
                  refine q_iconst F dX11_guessOf_139 (v := nI 0) (by decide) ?_
                  refine q_toi (bI (asR (goR T ((29 - m) % 3) (sF (A 7)) 6 (shB T (A 7), nI ((29 - m) / 3), nI 0, nI 0, nI 0, fun _ => (-1))).2.2.2.2.2 (A 21) sh (k + 1))) (by rw [asR, hb_107]; rfl) ?_
                  exact jn140
                · skip
                  have hb_107 := bI_1 h_107
                  refine q_iload F 0 dX11_guessOf_110 rfl ?_
                  refine q_aload_n F 2 dX11_guessOf_112 rfl ?_
                  refine q_get F (ci := 11) (j := 21) (v := .ref (a 21)) (List.mem_append_left _ (List.mem_of_getElem? (i := 0) rfl)) rfl hi11 (by decide) hf28_11 rfl rfl dX11_guessOf_113 ?_
                  refine q_iconst F dX11_guessOf_116 (v := nI 3) (by decide) ?_
                  refine q_iload F 8 dX11_guessOf_117 rfl ?_
                  refine q_imul F dX11_guessOf_119 ?_
                  refine q_toi (nI (3 * k)) (pk_mul _ _) ?_
                  refine q_iconst F dX11_guessOf_120 (v := nI 2) (by decide) ?_
                  refine q_iadd F dX11_guessOf_121 ?_
                  refine q_toi (nI (3 * k + 2)) (nI_add _ _) ?_
                  refine q_iald F (f := A9 21) (List.mem_append_left _ (List.mem_of_getElem? (i := 7) rfl)) (3 * k + 2) rfl (by omega) (by decide) dX11_guessOf_122 ?_
                  refine q_toi (A 21 (3 * k + 2)) (by rw [hka 21 rfl]) ?_
                  refine q_iconst F dX11_guessOf_123 (v := nI 1) (by decide) ?_
                  have jn132 : gW p_ l e_ (rmL 4 0 0) s_ m_ args_ below_ meth_ c_ E A_ 10 (MQ below_ (gQ E A_ P_) args_ s_ 0 0 A_) 132 [(9, .int (bI (sgW (goR T ((29 - m) % 3) (sF (A 7)) 6 (shB T (A 7), nI ((29 - m) / 3), nI 0, nI 0, nI 0, fun _ => (-1))).2.2.2.2.2 (A 21) sh k))), (8, .int (((goR T ((29 - m) % 3) (sF (A 7)) 6 (shB T (A 7), nI ((29 - m) / 3), nI 0, nI 0, nI 0, fun _ => (-1))).2.2.2.2.2) (sh k))), (0, .ref (a 32)), (1, .int x), (2, .int (guC T (A 7) (A 21) sh sk m)), (3, .int (guL T (A 7) (A 21) sh sk m)), (4, .int (nI (29 - m))), (6, .int (bI (asR (goR T ((29 - m) % 3) (sF (A 7)) 6 (shB T (A 7), nI ((29 - m) / 3), nI 0, nI 0, nI 0, fun _ => (-1))).2.2.2.2.2 (A 21) sh k))), (7, .int (nI k))] [.int (bI (decide (A 21 (3 * k + 2) = nI 1))), .int (bI (sgW (goR T ((29 - m) % 3) (sF (A 7)) 6 (shB T (A 7), nI ((29 - m) / 3), nI 0, nI 0, nI 0, fun _ => (-1))).2.2.2.2.2 (A 21) sh k))] (mC E a (upd (upd (upd f9 8 ((goR T ((29 - m) % 3) (sF (A 7)) 6 (shB T (A 7), nI ((29 - m) / 3), nI 0, nI 0, nI 0, fun _ => (-1))).2.1)) 9 ((goR T ((29 - m) % 3) (sF (A 7)) 6 (shB T (A 7), nI ((29 - m) / 3), nI 0, nI 0, nI 0, fun _ => (-1))).2.2.1)) 10 ((goR T ((29 - m) % 3) (sF (A 7)) 6 (shB T (A 7), nI ((29 - m) / 3), nI 0, nI 0, nI 0, fun _ => (-1))).2.2.2.1)) hh (va_up A9 11 ((goR T ((29 - m) % 3) (sF (A 7)) 6 (shB T (A 7), nI ((29 - m) / 3), nI 0, nI 0, nI 0, fun _ => (-1))).2.2.2.2.2)) ++ tl) 0 0 := by
                    refine q_icmp_ne F (tgt := 139) dX11_guessOf_132 (by decide) (fun h_132 => ?_) (fun h_132 => ?_)
                    · skip
                      refine q_iconst F dX11_guessOf_139 (v := nI 0) (by decide) ?_
                      refine q_toi (bI (asR (goR T ((29 - m) % 3) (sF (A 7)) 6 (shB T (A 7), nI ((29 - m) / 3), nI 0, nI 0, nI 0, fun _ => (-1))).2.2.2.2.2 (A 21) sh (k + 1))) (by rw [asR, hb_107, Bool.true_and, beq_eq_false_iff_ne.mpr (fun z => h_132 (bI_inj.mpr z))]; rfl) ?_
                      exact jn140
                    · skip
                      refine q_iconst F dX11_guessOf_135 (v := nI 1) (by decide) ?_
                      refine q_goto F (tgt := 140) dX11_guessOf_136 (by decide) ?_
                      refine q_toi (bI (asR (goR T ((29 - m) % 3) (sF (A 7)) 6 (shB T (A 7), nI ((29 - m) / 3), nI 0, nI 0, nI 0, fun _ => (-1))).2.2.2.2.2 (A 21) sh (k + 1))) (by rw [asR, hb_107, Bool.true_and, beq_iff_eq.mpr (bI_inj.mp h_132)]; rfl) ?_
                      exact jn140
                  refine q_icmp_ne F (tgt := 131) dX11_guessOf_124 (by decide) (fun h_124 => ?_) (fun h_124 => ?_)
                  · skip
                    refine q_iconst F dX11_guessOf_131 (v := nI 0) (by decide) ?_
                    refine q_toi (bI (decide (A 21 (3 * k + 2) = nI 1))) (by rw [decide_eq_false h_124]; rfl) ?_
                    exact jn132
                  · skip
                    refine q_iconst F dX11_guessOf_127 (v := nI 1) (by decide) ?_
                    refine q_goto F (tgt := 132) dX11_guessOf_128 (by decide) ?_
                    refine q_toi (bI (decide (A 21 (3 * k + 2) = nI 1))) (by rw [decide_eq_true h_124]; rfl) ?_
                    exact jn132
              refine q_icmp_eq F (tgt := 102) dX11_guessOf_79 (by decide) (fun h_79 => ?_) (fun h_79 => ?_)
              · skip
                refine q_iconst F dX11_guessOf_102 (v := nI 0) (by decide) ?_
                refine q_toi (bI (sgW (goR T ((29 - m) % 3) (sF (A 7)) 6 (shB T (A 7), nI ((29 - m) / 3), nI 0, nI 0, nI 0, fun _ => (-1))).2.2.2.2.2 (A 21) sh k)) (by rw [sgW, decide_eq_true h_79]; rfl) ?_
                exact jn103
              · skip
                refine q_iload F 0 dX11_guessOf_82 rfl ?_
                refine q_aload_n F 1 dX11_guessOf_84 rfl ?_
                refine q_get F (ci := 11) (j := 21) (v := .ref (a 21)) (List.mem_append_left _ (List.mem_of_getElem? (i := 0) rfl)) rfl hi11 (by decide) hf28_11 rfl rfl dX11_guessOf_85 ?_
                refine q_iconst F dX11_guessOf_88 (v := nI 3) (by decide) ?_
                refine q_iload F 7 dX11_guessOf_89 rfl ?_
                refine q_imul F dX11_guessOf_91 ?_
                refine q_toi (nI (3 * k)) (pk_mul _ _) ?_
                refine q_iconst F dX11_guessOf_92 (v := nI 1) (by decide) ?_
                refine q_iadd F dX11_guessOf_93 ?_
                refine q_toi (nI (3 * k + 1)) (nI_add _ _) ?_
                refine q_iald F (f := A9 21) (List.mem_append_left _ (List.mem_of_getElem? (i := 7) rfl)) (3 * k + 1) rfl (by omega) (by decide) dX11_guessOf_94 ?_
                refine q_toi (A 21 (3 * k + 1)) (by rw [hka 21 rfl]) ?_
                refine q_icmp_gt F (tgt := 102) dX11_guessOf_95 (by decide) (fun h_95 => ?_) (fun h_95 => ?_)
                · skip
                  have hz_95 := Int32.not_le.mpr h_95
                  refine q_iconst F dX11_guessOf_102 (v := nI 0) (by decide) ?_
                  refine q_toi (bI (sgW (goR T ((29 - m) % 3) (sF (A 7)) 6 (shB T (A 7), nI ((29 - m) / 3), nI 0, nI 0, nI 0, fun _ => (-1))).2.2.2.2.2 (A 21) sh k)) (by rw [sgW, decide_eq_false h_79, decide_eq_true h_95]; rfl) ?_
                  exact jn103
                · skip
                  have hz_95 := Int32.not_lt.mp h_95
                  refine q_iconst F dX11_guessOf_98 (v := nI 1) (by decide) ?_
                  refine q_goto F (tgt := 103) dX11_guessOf_99 (by decide) ?_
                  refine q_toi (bI (sgW (goR T ((29 - m) % 3) (sF (A 7)) 6 (shB T (A 7), nI ((29 - m) / 3), nI 0, nI 0, nI 0, fun _ => (-1))).2.2.2.2.2 (A 21) sh k)) (by rw [sgW, decide_eq_false h_79, decide_eq_false h_95]; rfl) ?_
                  exact jn103
        refine q_lv [3, 4, 5, 6, 7, 1, 0] (lv' := [(0, .ref (a 32)), (1, .int x), (2, .int (guC T (A 7) (A 21) sh sk m)), (3, .int (guL T (A 7) (A 21) sh sk m)), (4, .int (nI (29 - m))), (6, .int (nI 1)), (7, .int (nI 0))]) rfl ?_
        refine q_to (lv' := [(0, .ref (a 32)), (1, .int x), (2, .int (guC T (A 7) (A 21) sh sk m)), (3, .int (guL T (A 7) (A 21) sh sk m)), (4, .int (nI (29 - m))), (6, .int (bI (asR (goR T ((29 - m) % 3) (sF (A 7)) 6 (shB T (A 7), nI ((29 - m) / 3), nI 0, nI 0, nI 0, fun _ => (-1))).2.2.2.2.2 (A 21) sh 0))), (7, .int (nI 0))]) (st' := []) (ws' := mC E a (upd (upd (upd f9 8 ((goR T ((29 - m) % 3) (sF (A 7)) 6 (shB T (A 7), nI ((29 - m) / 3), nI 0, nI 0, nI 0, fun _ => (-1))).2.1)) 9 ((goR T ((29 - m) % 3) (sF (A 7)) 6 (shB T (A 7), nI ((29 - m) / 3), nI 0, nI 0, nI 0, fun _ => (-1))).2.2.1)) 10 ((goR T ((29 - m) % 3) (sF (A 7)) 6 (shB T (A 7), nI ((29 - m) / 3), nI 0, nI 0, nI 0, fun _ => (-1))).2.2.2.1)) hh (va_up A9 11 ((goR T ((29 - m) % 3) (sF (A 7)) 6 (shB T (A 7), nI ((29 - m) / 3), nI 0, nI 0, nI 0, fun _ => (-1))).2.2.2.2.2)) ++ tl) (cE (vE (rfl)) (cE (vE (rfl)) (cE (vE (rfl)) (cE (vE (rfl)) (cE (vE (rfl)) (cE (vE (congrArg Value.int (by rfl))) (cE (vE (rfl)) rfl))))))) rfl rfl ?_
        exact lb51 (sk - 0 + 1) 0 (by omega) (Nat.lt_succ_self _)
  refine q_lv [3, 4, 2, 1, 0] (lv' := [(0, .ref (a 32)), (1, .int x), (2, .int (nI 0)), (3, .int (-1)), (4, .int (nI 29))]) rfl ?_
  refine q_to (lv' := [(0, .ref (a 32)), (1, .int x), (2, .int (guC T (A 7) (A 21) sh sk 0)), (3, .int (guL T (A 7) (A 21) sh sk 0)), (4, .int (nI (30 - 0) - nI 1))]) (st' := []) (ws' := mC E a f hh A ++ tl) (cE (vE (rfl)) (cE (vE (rfl)) (cE (vE (congrArg Value.int (by rfl))) (cE (vE (congrArg Value.int (by rfl))) (cE (vE (congrArg Value.int (by decide))) rfl))))) rfl rfl ?_
  exact lb8 (30 - 0 + 1) 0 f A (by omega) (kpF_r _) (kpA_r _) (Nat.lt_succ_self _)
