/-! the law's loop -/
set_option maxHeartbeats 4000000 in
theorem law_loop {p : Program} {l : Launch} {e : Env} {s : State} {m : MethodId} {below : List Frame} {meth : Method} {c : Code} {E : gEnv} {A : Nat → Prop} {D : gAd} {a : Nat → Nat} {b L : Nat} {xs : Nat → Int32} {Q : State → Prop} (F : gOK p s m #[Value.ref b] meth c cL_law 4 RL wsL_law E A) (hX : va_X b L xs s s.heap) (hbl : b < s.heap.size) (hbA : ¬ A b) (hL : L ≤ 2048)
    (hend : ∀ (lv : List (Nat × Value)) (ws : va_W) (k n : Nat), k ≤ 500000 → n ≤ 7000000 → gW p l e room_1 s m #[Value.ref b] below meth c E A 4 Q 733 lv [.int (nI 1)] ws k n) :
    ∀ (fu i : Nat) (S : gSt) (f : gF) (hh : Int64) (A9 : gA) (tl : va_W), L + 4 - i < fu → i ≤ L + 3 → isHs S.1 tl → Rel i S f A9 → gW p l e room_1 s m #[Value.ref b] below meth c E A 4 Q 18 [(0, .ref b), (1, .ref D.1), (2, .ref (a 32)), (3, .int (nI i))] [] (xW E D S (mC E a f hh A9 ++ tl)) (100 + 2 * i) (1000 + 6 * i) := by
  intro fu
  induction fu with
  | zero => intro i S f hh A9 tl hfu; exact absurd hfu (Nat.not_lt_zero _)
  | succ fu ih =>
    intro i S f hh A9 tl hfu hiL hS hR
    refine q_iload_n F 3 dL_law_18 rfl ?_
    refine q_aload_n F 0 dL_law_19 rfl ?_
    refine q_slenX F hX hbl hbA dL_law_20 ?_
    refine q_iconst F dL_law_21 (v := nI 4) (by decide) ?_
    refine q_isub F dL_law_22 ?_
    refine q_icmp_gt F (tgt := 732) dL_law_23 (by decide) (fun h => ?_) (fun h => ?_)
    · refine q_iconst F dL_law_732 (v := nI 1) (by decide) ?_
      exact hend _ _ _ _ (by omega) (by omega)
    · have hi : i + 4 ≤ L := lw_cmp (by omega) hL h
      have nx : ∀ (S' : gSt) (f' : gF) (hh' : Int64) (A' : gA) (tl' : va_W), isHs S'.1 tl' → Rel (i + 4) S' f' A' → gW p l e room_1 s m #[Value.ref b] below meth c E A 4 Q 726 [(0, .ref b), (1, .ref D.1), (2, .ref (a 32)), (3, .int (nI i))] [] (xW E D S' (mC E a f' hh' A' ++ tl')) (100 + 2 * i + 6) (1000 + 6 * i + 18) := by
        intro S' f' hh' A' tl' hS' hR'
        refine q_iinc F 3 (v := nI (i + 4)) (lv' := [(3, .int (nI (i + 4))), (0, .ref b), (1, .ref D.1), (2, .ref (a 32))]) dL_law_726 rfl (nI_add i 4) (by decide) rfl ?_
        refine q_goto F (tgt := 18) dL_law_729 (by decide) ?_
        refine q_lv [1, 2, 3, 0] (lv' := [(0, .ref b), (1, .ref D.1), (2, .ref (a 32)), (3, .int (nI (i + 4)))]) rfl ?_
        exact q_widen (by omega) (by omega) (ih (i + 4) S' f' hh' A' tl' (by omega) (by omega) hS' hR')
      refine q_aload_n F 0 dL_law_26 rfl ?_
      refine q_iload_n F 3 dL_law_27 rfl ?_
      refine q_sld F hX hbl hbA i (by omega) (by omega) dL_law_28 ?_
      refine q_bipush F dL_law_29 (v := nI 31) (by decide) ?_
      refine q_iand F dL_law_31 ?_
      obtain ⟨j, hj, ej⟩ := lw_31 (xs i)
      refine q_toi (nI j) ej ?_
      rcases (show j = 0 ∨ j = 1 ∨ j = 2 ∨ j = 3 ∨ j = 4 ∨ j = 5 ∨ j = 6 ∨ j = 7 ∨ j = 8 ∨ j = 9 ∨ j = 10 ∨ j = 11 ∨ j = 12 ∨ j = 13 ∨ j = 14 ∨ j = 15 ∨ j = 16 ∨ j = 17 ∨ j = 18 ∨ j = 19 ∨ j = 20 ∨ j = 21 ∨ j = 22 ∨ j = 23 ∨ j = 24 ∨ j = 25 ∨ j = 26 ∨ j = 27 ∨ j = 28 ∨ j = 29 ∨ j = 30 ∨ j = 31 by omega) with rfl | rfl | rfl | rfl | rfl | rfl | rfl | rfl | rfl | rfl | rfl | rfl | rfl | rfl | rfl | rfl | rfl | rfl | rfl | rfl | rfl | rfl | rfl | rfl | rfl | rfl | rfl | rfl | rfl | rfl | rfl | rfl
      · refine q_tableIn F (off := 116) (tgt := 148) dL_law_32 (by decide) (by decide) (by decide) (by decide) ?_
        exact lc_letter F hX hbl hbA hL hi hS hR (by omega) (by omega) nx
      · refine q_tableIn F (off := 139) (tgt := 171) dL_law_32 (by decide) (by decide) (by decide) (by decide) ?_
        exact lc_blank F hX hbl hbA hL hi hS hR (by omega) (by omega) nx
      · refine q_tableIn F (off := 152) (tgt := 184) dL_law_32 (by decide) (by decide) (by decide) (by decide) ?_
        exact lc_fault F hX hbl hbA hL hi hS hR (by omega) (by omega) nx
      · refine q_tableIn F (off := 165) (tgt := 197) dL_law_32 (by decide) (by decide) (by decide) (by decide) ?_
        exact lc_town F hX hbl hbA hL hi hS hR (by omega) (by omega) nx
      · refine q_tableIn F (off := 178) (tgt := 210) dL_law_32 (by decide) (by decide) (by decide) (by decide) ?_
        exact lc_about F hX hbl hbA hL hi hS hR (by omega) (by omega) nx
      · refine q_tableIn F (off := 211) (tgt := 243) dL_law_32 (by decide) (by decide) (by decide) (by decide) ?_
        exact lc_as F hX hbl hbA hL hi hS hR (by omega) (by omega) nx
      · refine q_tableIn F (off := 244) (tgt := 276) dL_law_32 (by decide) (by decide) (by decide) (by decide) ?_
        exact lc_shut F hX hbl hbA hL hi hS hR (by omega) (by omega) nx
      · refine q_tableIn F (off := 293) (tgt := 325) dL_law_32 (by decide) (by decide) (by decide) (by decide) ?_
        exact lc_lay F hX hbl hbA hL hi hS hR (by omega) (by omega) nx
      · refine q_tableIn F (off := 316) (tgt := 348) dL_law_32 (by decide) (by decide) (by decide) (by decide) ?_
        exact lc_pass F hX hbl hbA hL hi hS hR (by omega) (by omega) nx
      · refine q_tableIn F (off := 339) (tgt := 371) dL_law_32 (by decide) (by decide) (by decide) (by decide) ?_
        exact lc_open F hX hbl hbA hL hi hS hR (by omega) (by omega) nx
      · refine q_tableIn F (off := 362) (tgt := 394) dL_law_32 (by decide) (by decide) (by decide) (by decide) ?_
        exact lc_night F hX hbl hbA hL hi hS hR (by omega) (by omega) nx
      · refine q_tableIn F (off := 375) (tgt := 407) dL_law_32 (by decide) (by decide) (by decide) (by decide) ?_
        exact lc_next F hX hbl hbA hL hi hS hR (by omega) (by omega) nx
      · refine q_tableIn F (off := 398) (tgt := 430) dL_law_32 (by decide) (by decide) (by decide) (by decide) ?_
        exact lc_by F hX hbl hbA hL hi hS hR (by omega) (by omega) nx
      · refine q_tableIn F (off := 431) (tgt := 463) dL_law_32 (by decide) (by decide) (by decide) (by decide) ?_
        exact lc_best F hX hbl hbA hL hi hS hR (by omega) (by omega) nx
      · refine q_tableIn F (off := 454) (tgt := 486) dL_law_32 (by decide) (by decide) (by decide) (by decide) ?_
        exact lc_shortest F hX hbl hbA hL hi hS hR (by omega) (by omega) nx
      · refine q_tableIn F (off := 467) (tgt := 499) dL_law_32 (by decide) (by decide) (by decide) (by decide) ?_
        exact lc_hang F hX hbl hbA hL hi hS hR (by omega) (by omega) nx
      · refine q_tableIn F (off := 480) (tgt := 512) dL_law_32 (by decide) (by decide) (by decide) (by decide) ?_
        exact lc_twoKeys F hX hbl hbA hL hi hS hR (by omega) (by omega) nx
      · refine q_tableIn F (off := 493) (tgt := 525) dL_law_32 (by decide) (by decide) (by decide) (by decide) ?_
        exact lc_see F hX hbl hbA hL hi hS hR (by omega) (by omega) nx
      · refine q_tableIn F (off := 552) (tgt := 584) dL_law_32 (by decide) (by decide) (by decide) (by decide) ?_
        exact lc_forget F hX hbl hbA hL hi hS hR (by omega) (by omega) nx
      · refine q_tableIn F (off := 565) (tgt := 597) dL_law_32 (by decide) (by decide) (by decide) (by decide) ?_
        exact lc_guess F hX hbl hbA hL hi hS hR (by omega) (by omega) nx
      · refine q_tableIn F (off := 588) (tgt := 620) dL_law_32 (by decide) (by decide) (by decide) (by decide) ?_
        exact lc_nights F hX hbl hbA hL hi hS hR (by omega) (by omega) nx
      · refine q_tableIn F (off := 631) (tgt := 663) dL_law_32 (by decide) (by decide) (by decide) (by decide) ?_
        exact lc_image F hX hbl hbA hL hi hS hR (by omega) (by omega) nx
      · refine q_tableIn F (off := 644) (tgt := 676) dL_law_32 (by decide) (by decide) (by decide) (by decide) ?_
        exact lc_restore F hX hbl hbA hL hi hS hR (by omega) (by omega) nx
      · refine q_tableIn F (off := 657) (tgt := 689) dL_law_32 (by decide) (by decide) (by decide) (by decide) ?_
        exact lc_count F hX hbl hbA hL hi hS hR (by omega) (by omega) nx
      · refine q_tableIn F (off := 680) (tgt := 712) dL_law_32 (by decide) (by decide) (by decide) (by decide) ?_
        exact lc_digest F hX hbl hbA hL hi hS hR (by omega) (by omega) nx
      · refine q_tableOut F (tgt := 726) dL_law_32 (by decide) (by decide) ?_
        exact q_widen (by omega) (by omega) (nx S f hh A9 tl hS hR.up)
      · refine q_tableOut F (tgt := 726) dL_law_32 (by decide) (by decide) ?_
        exact q_widen (by omega) (by omega) (nx S f hh A9 tl hS hR.up)
      · refine q_tableOut F (tgt := 726) dL_law_32 (by decide) (by decide) ?_
        exact q_widen (by omega) (by omega) (nx S f hh A9 tl hS hR.up)
      · refine q_tableOut F (tgt := 726) dL_law_32 (by decide) (by decide) ?_
        exact q_widen (by omega) (by omega) (nx S f hh A9 tl hS hR.up)
      · refine q_tableOut F (tgt := 726) dL_law_32 (by decide) (by decide) ?_
        exact q_widen (by omega) (by omega) (nx S f hh A9 tl hS hR.up)
      · refine q_tableOut F (tgt := 726) dL_law_32 (by decide) (by decide) ?_
        exact q_widen (by omega) (by omega) (nx S f hh A9 tl hS hR.up)
      · refine q_tableOut F (tgt := 726) dL_law_32 (by decide) (by decide) ?_
        exact q_widen (by omega) (by omega) (nx S f hh A9 tl hS hR.up)
