/-! what the tables and the start give -/
def gA0 (s : State) : Nat → Prop := fun q => s.heap.size ≤ q
theorem law_K {s : State} {args : Array Value} (hts : ∀ w ∈ lw_tbl, w.before args s = true) : ∃ D : va_G, ∀ (k : Nat) (q : vw_C), vwCl[k]? = some q → u_Kn s q.1 q.2.1 q.2.2 (D.1 k) (D.2 k) := by
  obtain ⟨c0, iS0, hK0⟩ := u_known (C := RX0) (T := TX0) (N := 3) (n := 3) hts inX0 (hts (.instantiable RX0 3) (by decide +kernel))
  obtain ⟨c1, iS1, hK1⟩ := u_known (C := RX1) (T := TX1) (N := 3) (n := 3) hts inX1 (hts (.instantiable RX1 3) (by decide +kernel))
  obtain ⟨c2, iS2, hK2⟩ := u_known (C := RX2) (T := TX2) (N := 3) (n := 3) hts inX2 (hts (.instantiable RX2 3) (by decide +kernel))
  obtain ⟨c3, iS3, hK3⟩ := u_known (C := RX3) (T := TX3) (N := 3) (n := 3) hts inX3 (hts (.instantiable RX3 3) (by decide +kernel))
  obtain ⟨c4, iS4, hK4⟩ := u_known (C := RX4) (T := TX4) (N := 3) (n := 3) hts inX4 (hts (.instantiable RX4 3) (by decide +kernel))
  obtain ⟨c5, iS5, hK5⟩ := u_known (C := RX5) (T := TX5) (N := 10) (n := 10) hts inX5 (hts (.instantiable RX5 10) (by decide +kernel))
  obtain ⟨c6, iS6, hK6⟩ := u_known (C := RX6) (T := TX6) (N := 2) (n := 2) hts inX6 (hts (.instantiable RX6 2) (by decide +kernel))
  obtain ⟨c7, iS7, hK7⟩ := u_known (C := RX7) (T := TX7) (N := 9) (n := 9) hts inX7 (hts (.instantiable RX7 9) (by decide +kernel))
  obtain ⟨c8, iS8, hK8⟩ := u_known (C := RX8) (T := TX8) (N := 4) (n := 4) hts inX8 (hts (.instantiable RX8 4) (by decide +kernel))
  obtain ⟨c9, iS9, hK9⟩ := u_known (C := RX9) (T := TX9) (N := 3) (n := 3) hts inX9 (hts (.instantiable RX9 3) (by decide +kernel))
  obtain ⟨c10, iS10, hK10⟩ := u_known (C := RX10) (T := TX10) (N := 11) (n := 11) hts inX10 (hts (.instantiable RX10 11) (by decide +kernel))
  obtain ⟨c11, iS11, hK11⟩ := u_known (C := RX11) (T := TX11) (N := 32) (n := 32) hts inX11 (hts (.instantiable RX11 32) (by decide +kernel))
  refine ⟨(fun k => if k = 0 then c0 else if k = 1 then c1 else if k = 2 then c2 else if k = 3 then c3 else if k = 4 then c4 else if k = 5 then c5 else if k = 6 then c6 else if k = 7 then c7 else if k = 8 then c8 else if k = 9 then c9 else if k = 10 then c10 else c11, fun k => if k = 0 then iS0 else if k = 1 then iS1 else if k = 2 then iS2 else if k = 3 then iS3 else if k = 4 then iS4 else if k = 5 then iS5 else if k = 6 then iS6 else if k = 7 then iS7 else if k = 8 then iS8 else if k = 9 then iS9 else if k = 10 then iS10 else iS11), ?_⟩
  intro k q hq
  match k, hq with
  | 0, hq => cases hq; exact hK0
  | 1, hq => cases hq; exact hK1
  | 2, hq => cases hq; exact hK2
  | 3, hq => cases hq; exact hK3
  | 4, hq => cases hq; exact hK4
  | 5, hq => cases hq; exact hK5
  | 6, hq => cases hq; exact hK6
  | 7, hq => cases hq; exact hK7
  | 8, hq => cases hq; exact hK8
  | 9, hq => cases hq; exact hK9
  | 10, hq => cases hq; exact hK10
  | 11, hq => cases hq; exact hK11
  | k + 12, hq => simp [vwCl] at hq
theorem law_T {s : State} {args : Array Value} (hts : ∀ w ∈ lw_tbl, w.before args s = true) : ∃ cA : Nat → ClassId, ∀ (k : Nat) (q : ClassId × FieldType), ([(cA 0, .int), (cA 1, .boolean), (cA 2, .object RX0), (cA 3, .object RX2)] : List (ClassId × FieldType))[k]? = some q → ArrOfT s q.1 q.2 ∧ va_RA s q.1 q.2 := by
  obtain ⟨c0, k0, m0, a1, a2, a3⟩ := Cond.arrayClass_spec (hts (.arrayClass .int) (by decide +kernel))
  obtain ⟨c1, k1, m1, b1, b2, b3⟩ := Cond.arrayClass_spec (hts (.arrayClass .boolean) (by decide +kernel))
  obtain ⟨m2, c2, k2, d1, -, d2, d3, d4⟩ := Cond.arrayOver_spec (hts (.arrayOver (.object RX0)) (by decide +kernel))
  obtain ⟨m3, c3, k3, e1, -, e2, e3, e4⟩ := Cond.arrayOver_spec (hts (.arrayOver (.object RX2)) (by decide +kernel))
  refine ⟨fun k => if k = 0 then c0 else if k = 1 then c1 else if k = 2 then c2 else c3, ?_⟩
  intro k q hq
  match k, hq with
  | 0, hq => cases hq; exact ⟨fun n z => ⟨fun k h => (by cases h), k0, a2, m0, a3⟩, a1⟩
  | 1, hq => cases hq; exact ⟨fun n z => ⟨fun k h => (by cases h), k1, b2, m1, b3⟩, b1⟩
  | 2, hq => cases hq; exact ⟨fun n z => ⟨fun k h => (by cases h), k2, d2, m2, d3⟩, k2, m2, d2, d3, d1, d4⟩
  | 3, hq => cases hq; exact ⟨fun n z => ⟨fun k h => (by cases h), k3, e2, m3, e3⟩, k3, m3, e2, e3, e1, e4⟩
  | k + 4, hq => simp at hq
theorem law_N {s : State} {args : Array Value} (hts : ∀ w ∈ lw_tbl, w.before args s = true) (hgv : (Jvm.Cond.and given_1 narrow_1).before args s = true) : gN s := by
  have hs := flat_of_before _ hgv
  refine ⟨?_, ?_, ?_, va_AO.of (hts (.arrayOver (.object RX0)) (by decide +kernel)), va_AO.of (hts (.arrayOver (.object RX2)) (by decide +kernel))⟩
  · intro q hq
    simp only [gNl, List.mem_cons, List.not_mem_nil, or_false] at hq
    rcases hq with rfl | rfl | rfl | rfl
    · exact va_Nw.of rfl (hts (.methodLinkNest "KeyOnStreet" 11 yX6_init "KeyOnStreet") (by decide +kernel))
    · exact va_Nw.of rfl (hts (.methodLinkNest "KeyOnStreet" 20 yX8_init "KeyOnStreet") (by decide +kernel))
    · exact va_Nw.of rfl (hts (.methodLinkNest RX5 11 yX2_init "KeyOnStreet") (by decide +kernel))
    · exact va_Nw.of rfl (hts (.methodLinkNest RX7 28 yX2_init "KeyOnStreet") (by decide +kernel))
  · intro q hq
    simp only [gCy, List.mem_cons, List.not_mem_nil, or_false] at hq
    rcases hq with rfl | rfl | rfl | rfl | rfl
    · exact va_Nw.of rfl (hts (.castable RX3 RX9) (by decide +kernel))
    · exact va_Nw.of rfl (hts (.castable RX1 RX0) (by decide +kernel))
    · exact va_Nw.of rfl (hts (.castable RX3 RX0) (by decide +kernel))
    · exact va_Nw.of rfl (hts (.castable RX4 RX0) (by decide +kernel))
    · exact va_Nw.of rfl (hts (.castable RX9 RX0) (by decide +kernel))
  · intro q hq
    simp only [gCn, List.mem_cons, List.not_mem_nil, or_false] at hq
    rcases hq with rfl | rfl | rfl | rfl | rfl | rfl | rfl | rfl | rfl | rfl | rfl | rfl | rfl | rfl | rfl
    · exact va_Nc.of (hs (.not (.castable RX0 RX4)) (by decide +kernel))
    · exact va_Nc.of (hs (.not (.castable RX1 RX4)) (by decide +kernel))
    · exact va_Nc.of (hs (.not (.castable RX3 RX4)) (by decide +kernel))
    · exact va_Nc.of (hs (.not (.castable RX9 RX4)) (by decide +kernel))
    · exact va_Nc.of (hs (.not (.castable RX0 RX1)) (by decide +kernel))
    · exact va_Nc.of (hs (.not (.castable RX3 RX1)) (by decide +kernel))
    · exact va_Nc.of (hs (.not (.castable RX4 RX1)) (by decide +kernel))
    · exact va_Nc.of (hs (.not (.castable RX9 RX1)) (by decide +kernel))
    · exact va_Nc.of (hs (.not (.castable RX0 RX9)) (by decide +kernel))
    · exact va_Nc.of (hs (.not (.castable RX1 RX9)) (by decide +kernel))
    · exact va_Nc.of (hs (.not (.castable RX4 RX9)) (by decide +kernel))
    · exact va_Nc.of (hs (.not (.castable RX0 RX3)) (by decide +kernel))
    · exact va_Nc.of (hs (.not (.castable RX1 RX3)) (by decide +kernel))
    · exact va_Nc.of (hs (.not (.castable RX4 RX3)) (by decide +kernel))
    · exact va_Nc.of (hs (.not (.castable RX9 RX3)) (by decide +kernel))
theorem law_Z {s : State} {args : Array Value} (hts : ∀ w ∈ lw_tbl, w.before args s = true) (hgv : (Jvm.Cond.and given_1 narrow_1).before args s = true) : ∃ adK adV : Nat → Nat, vk_R RX6 23 "hmiwl" (adK 0) s ∧ vk_S 1 [5] [[104, 109, 105, 119, 108]] adK adV (gA0 s) s s.heap ∧ va_Z "java/lang/String" "COMPACT_STRINGS" "Z" (.int 1) (gA0 s) s s.heap := by
  have hs := flat_of_before _ hgv
  have hA : ∀ a : Nat, a < s.heap.size → ¬ gA0 s a := fun a h z => absurd h (Nat.not_lt.mpr z)
  obtain ⟨adK, adV, h1, h2⟩ := vk_Sof (args := args) (s := s) (N := 1) (tm := fun _ => (.string "KeyOnStreet$Page" 23)) (len := [5]) (byt := [[104, 109, 105, 119, 108]]) (A := gA0 s) (fun i hi => by rcases (show i = 0 by omega) with rfl; decide) (fun i hi => hs (.exactly (.string "KeyOnStreet$Page" 23) "java/lang/String") (by decide +kernel)) (fun i hi => hs (.eq (.field (.string "KeyOnStreet$Page" 23) "java/lang/String" "coder" "B") (.int 0)) (by decide +kernel)) (fun i hi => hs (.arrayOf (.field (.string "KeyOnStreet$Page" 23) "java/lang/String" "value" "[B") .byte) (by decide +kernel)) (fun i hi => by rcases (show i = 0 by omega) with rfl; exact hs (.eq (.length (.field (.string "KeyOnStreet$Page" 23) "java/lang/String" "value" "[B")) (.int (Int32.ofNat 5))) (by decide +kernel)) (fun i hi j hj => by
      rcases (show i = 0 by omega) with rfl
      have hj5 : j < 5 := hj
      rcases (show j = 0 ∨ j = 1 ∨ j = 2 ∨ j = 3 ∨ j = 4 by omega) with rfl | rfl | rfl | rfl | rfl
      · exact hs (.eq (.elem (.field (.string "KeyOnStreet$Page" 23) "java/lang/String" "value" "[B") (.int (Int32.ofNat 0))) (.int 104)) (by decide +kernel)
      · exact hs (.eq (.elem (.field (.string "KeyOnStreet$Page" 23) "java/lang/String" "value" "[B") (.int (Int32.ofNat 1))) (.int 109)) (by decide +kernel)
      · exact hs (.eq (.elem (.field (.string "KeyOnStreet$Page" 23) "java/lang/String" "value" "[B") (.int (Int32.ofNat 2))) (.int 105)) (by decide +kernel)
      · exact hs (.eq (.elem (.field (.string "KeyOnStreet$Page" 23) "java/lang/String" "value" "[B") (.int (Int32.ofNat 3))) (.int 119)) (by decide +kernel)
      · exact hs (.eq (.elem (.field (.string "KeyOnStreet$Page" 23) "java/lang/String" "value" "[B") (.int (Int32.ofNat 4))) (.int 108)) (by decide +kernel)) (fun i j hi hj hij => absurd (show i = j by omega) hij) hA
  exact ⟨adK, adV, vk_R.of (hts (.stringRef RX6 23 "hmiwl") (by decide +kernel)) (h2 0 (by decide)), h1, va_Zof (hts (.laysStatic "java/lang/String" "COMPACT_STRINGS" "Z") (by decide +kernel)) (hts (.initialized "java/lang/String") (by decide +kernel)) (va_eqt (hs (.eq (.static "java/lang/String" "COMPACT_STRINGS" "Z") (.int 1)) (by decide +kernel))) hA⟩
theorem law_E {s : State} {args : Array Value} (hts : ∀ w ∈ lw_tbl, w.before args s = true) (hgv : (Jvm.Cond.and given_1 narrow_1).before args s = true) : ∃ E : gEnv, va_K E.1 vwCl (gT E) s ∧ gN s ∧ gZ E (gA0 s) s s.heap := by
  obtain ⟨D, hD⟩ := law_K hts
  obtain ⟨cA, hc⟩ := law_T hts
  obtain ⟨adK, adV, z1, z2, z3⟩ := law_Z hts hgv
  exact ⟨(D, cA, adK, adV), ⟨hD, hc⟩, law_N hts hgv, z1, z2, z3⟩
section LAW
variable {p : Program} {l : Launch} {e : Env} {R : Room} {s : State} {m : MethodId} {args : Array Value} {below : List Frame} {meth : Method} {c : Code} {Q : State → Prop} {E : gEnv} {A : Nat → Prop} {nL : Nat} {cc : ByteArray} {own : String} {Ts : List Cond} {pc : Nat} {lv lv' : List (Nat × Value)} {st : List Value} {ws ws' wc : va_W} {k n : Nat}
theorem q_sld (F : gOK p s m args meth c cc nL own Ts E A) {b L : Nat} {xs : Nat → Int32} (hX : va_X b L xs s s.heap) (hbl : b < s.heap.size) (hbA : ¬ A b) (j : Nat) (hj : j < L) (hL : L < 2 ^ 31) (d : decode cc pc = .ok (.iaload, 1)) (kk : gW p l e R s m args below meth c E A nL Q (pc + 1) lv (.int (xs j) :: st) ws k n) : gW p l e R s m args below meth c E A nL Q pc lv (.int (nI j) :: .ref b :: st) ws k n := fun H locs ls hP hD hS hl => va_sld F.1 F.2.1 hX hbl hbA hS (vp_in_nI hj hL) d (by rw [nI_clamp (Nat.lt_trans hj hL)]; exact kk H locs ls hP hD hS hl)
theorem q_slenX (F : gOK p s m args meth c cc nL own Ts E A) {b L : Nat} {xs : Nat → Int32} (hX : va_X b L xs s s.heap) (hbl : b < s.heap.size) (hbA : ¬ A b) (d : decode cc pc = .ok (.arraylength, 1)) (kk : gW p l e R s m args below meth c E A nL Q (pc + 1) lv (.int (nI L) :: st) ws k n) : gW p l e R s m args below meth c E A nL Q pc lv (.ref b :: st) ws k n := fun H locs ls hP hD hS hl => va_slen F.1 F.2.1 hX hbl hbA hS d (kk H locs ls hP hD hS hl)
end LAW
theorem xW_mem (E : gEnv) (D : gAd) (S : gSt) (tl : va_W) : (D.1, (.inr (10, [.ref (D.2.1 0), .ref (D.2.2.1 0), .ref (D.2.2.2.1 0), .ref (D.2.2.2.2.1 0), .ref (D.2.2.2.2.2.1 0), .ref (D.2.2.2.2.2.2.1 0), .int (S.2.2.2.1 6), .int (S.2.2.2.1 7), .int (S.2.2.2.1 8), .int (S.2.2.2.1 9), .int (S.2.2.2.1 10)]) : va_E)) ∈ xW E D S tl := List.mem_append_left _ (List.mem_of_getElem? (i := 0) rfl)
theorem xW_tl {E : gEnv} {D : gAd} {S : gSt} {tl : va_W} {q : Nat × va_E} (h : q ∈ tl) : q ∈ xW E D S tl := by
  unfold xW
  exact List.mem_append_right _ (List.mem_append_right _ (List.mem_append_right _ (List.mem_append_right _ (List.mem_append_right _ (List.mem_append_right _ (List.mem_append_right _ (List.mem_append_right _ (List.mem_append_right _ (List.mem_append_right _ (List.mem_append_right _ h))))))))))
theorem xW_pm {E : gEnv} {D : gAd} {S : gSt} {b tl : va_W} : (xW E D S (b ++ tl)).Perm (b ++ xW E D S tl) := by
  unfold xW
  exact pf11
theorem xW_cg {E : gEnv} {D : gAd} {S : gSt} {t t' : va_W} (h : t.Perm t') : (xW E D S t).Perm (xW E D S t') := by
  unfold xW
  exact List.Perm.append_left _ (List.Perm.append_left _ (List.Perm.append_left _ (List.Perm.append_left _ (List.Perm.append_left _ (List.Perm.append_left _ (List.Perm.append_left _ (List.Perm.append_left _ (List.Perm.append_left _ (List.Perm.append_left _ (List.Perm.append_left _ h))))))))))
theorem mC_mem (E : gEnv) (a : Nat → Nat) (f : Nat → Int32) (hh : Int64) (A : Nat → Nat → Int32) (tl : va_W) : ∃ fs : List Value, (a 32, (.inr (11, fs) : va_E)) ∈ mC E a f hh A ++ tl := ⟨_, List.mem_append_left _ (List.mem_of_getElem? (i := 0) rfl)⟩
theorem lw_cmp {i L : Nat} (hi : i ≤ 4096) (hL : L ≤ 2048) (h : ¬ nI L - nI 4 < nI i) : i + 4 ≤ L := by
  have h2 := Int32.not_lt.mp h
  rw [Int32.le_iff_toInt_le, pk_sub_toInt (by omega) (by omega), nI_toInt (by omega)] at h2
  omega
theorem lw_31 (x : Int32) : ∃ j, j < 32 ∧ x &&& nI 31 = nI j := by
  obtain ⟨j, h1, h2⟩ := pk_andE x (m := nI 31) 5 (by decide)
  exact ⟨j, h1, h2⟩
theorem lgc_self (z : Int64) : lg_cmp z z = 0 := by
  unfold lg_cmp
  rw [if_neg (Int64.lt_irrefl), if_pos rfl]
