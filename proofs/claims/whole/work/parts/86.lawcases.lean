/-! the law's cases -/
theorem Rel.hz1 {i : Nat} {S : gSt} {f : gF} {A : gA} (h : Rel i S f A) : ¬ S.2.2.2.1 6 = 0 → okZ (S.2.2.2.2.2.1.2.1 8) := fun h6 => by
  obtain ⟨-, -, -, -, -, ⟨c, -, -, -, q⟩, -⟩ := h
  rcases q with ⟨q, -⟩ | ⟨-, -, -, q⟩
  · exact absurd q h6
  · exact q.2.2.2.2.2.2.2.2.2
section CASES
variable {p : Program} {l : Launch} {e : Env} {s : State} {m : MethodId} {below : List Frame} {meth : Method} {c : Code} {E : gEnv} {A : Nat → Prop} {D : gAd} {a : Nat → Nat} {b L i : Nat} {xs : Nat → Int32} {S : gSt} {f : gF} {hh : Int64} {A9 : gA} {tl : va_W} {k n : Nat} {Q : State → Prop}
theorem tS_letter {x1 y : Int32} {S S' : gSt} (hx : rX_letter S x1 y S') : S'.1 = S.1 := by
  rcases hx with h | h | h <;> (repeat obtain ⟨_, h⟩ := h) <;> rfl
theorem tS_blank {y : Int32} {S S' : gSt} (hx : rX_blank S y S') : S'.1 = S.1 := by
  have h := hx
  (repeat obtain ⟨_, h⟩ := h)
  rfl
theorem tS_fault {y : Int32} {S S' : gSt} (hx : rX_fault S y S') : S'.1 = S.1 := by
  have h := hx
  (repeat obtain ⟨_, h⟩ := h)
  rfl
theorem tS_about {x1 x2 y : Int32} {S S' : gSt} (hx : rX_about S x1 x2 y S') : S'.1 = S.1 := by
  rcases hx with h | h | h <;> (repeat obtain ⟨_, h⟩ := h) <;> rfl
theorem tS_as {x1 x2 y : Int32} {S S' : gSt} (hx : rX_as S x1 x2 y S') : S'.1 = S.1 := by
  rcases hx with h | h | h <;> (repeat obtain ⟨_, h⟩ := h) <;> rfl
theorem tS_shut {x1 x2 y : Int32} {S S' : gSt} (hx : rX_shut S x1 x2 y S') : S'.1 = S.1 := by
  rcases hx with h | h | h | h <;> (repeat obtain ⟨_, h⟩ := h) <;> rfl
theorem tS_lay {x1 y : Int32} {S S' : gSt} (hx : rX_lay S x1 y S') : S'.1 = S.1 := by
  rcases hx with h | h | h <;> (repeat obtain ⟨_, h⟩ := h) <;> rfl
theorem tS_pass {x1 y : Int32} {S S' : gSt} (hx : rX_pass S x1 y S') : S'.1 = S.1 := by
  rcases hx with h | h | h <;> (repeat obtain ⟨_, h⟩ := h) <;> rfl
theorem tS_open {x1 y : Int32} {S S' : gSt} (hx : rX_open S x1 y S') : S'.1 = S.1 := by
  rcases hx with h | h | h <;> (repeat obtain ⟨_, h⟩ := h) <;> rfl
theorem tS_night {y : Int32} {S S' : gSt} (hx : rX_night S y S') : S'.1 = S.1 := by
  rcases hx with h | h <;> (repeat obtain ⟨_, h⟩ := h) <;> rfl
theorem tS_next {x1 y : Int32} {S S' : gSt} (hx : rX_next S x1 y S') : S'.1 = S.1 := by
  rcases hx with h | h | h <;> (repeat obtain ⟨_, h⟩ := h) <;> rfl
theorem tS_by {x1 x2 y : Int32} {S S' : gSt} (hx : rX_by S x1 x2 y S') : S'.1 = S.1 := by
  rcases hx with h | h | h <;> (repeat obtain ⟨_, h⟩ := h) <;> rfl
theorem tS_best {x1 y : Int32} {S S' : gSt} (hx : rX_best S x1 y S') : S'.1 = S.1 := by
  rcases hx with h | h | h <;> (repeat obtain ⟨_, h⟩ := h) <;> rfl
theorem tS_shortest {y : Int32} {S S' : gSt} (hx : rX_shortest S y S') : S'.1 = S.1 := by
  rcases hx with h | h <;> (repeat obtain ⟨_, h⟩ := h) <;> rfl
theorem tS_hang {hc : Nat} {y : Int32} {S S' : gSt} (hx : rX_hang S hc y S') : S'.1 = S.1 := by
  rcases hx with h | h <;> (repeat obtain ⟨_, h⟩ := h) <;> rfl
theorem tS_twoKeys {y : Int32} {S S' : gSt} (hx : rX_twoKeys S y S') : S'.1 = S.1 := by
  rcases hx with h | h <;> (repeat obtain ⟨_, h⟩ := h) <;> rfl
theorem tS_see {sk : Nat} {x1 x2 x3 y : Int32} {S S' : gSt} (hx : rX_see S sk x1 x2 x3 y S') : S'.1 = S.1 := by
  rcases hx with h | h | h | h <;> (repeat obtain ⟨_, h⟩ := h) <;> rfl
theorem tS_forget {y : Int32} {S S' : gSt} (hx : rX_forget S y S') : S'.1 = S.1 := by
  have h := hx
  (repeat obtain ⟨_, h⟩ := h)
  rfl
theorem tS_guess {sk : Nat} {x1 y : Int32} {S S' : gSt} (hx : rX_guess S sk x1 y S') : S'.1 = S.1 := by
  rcases hx with h | h | h <;> (repeat obtain ⟨_, h⟩ := h) <;> rfl
theorem tS_nights {x1 x2 x3 y : Int32} {S S' : gSt} (hx : rX_nights S x1 x2 x3 y S') : S'.1 = S.1 := by
  rcases hx with h | h | h <;> (repeat obtain ⟨_, h⟩ := h) <;> rfl
theorem tS_image {y : Int32} {S S' : gSt} (hx : rX_image S y S') : S'.1 = S.1 := by
  rcases hx with h | h <;> (repeat obtain ⟨_, h⟩ := h) <;> rfl
theorem tS_restore {y : Int32} {S S' : gSt} (hx : rX_restore S y S') : S'.1 = S.1 := by
  rcases hx with h | h <;> (repeat obtain ⟨_, h⟩ := h) <;> rfl
theorem tS_count {x1 y : Int32} {S S' : gSt} (hx : rX_count S x1 y S') : S'.1 = S.1 := by
  rcases hx with h | h <;> (repeat obtain ⟨_, h⟩ := h) <;> rfl
theorem tS_digest {sk : Nat} {y : Int64} {S S' : gSt} (hx : rX_digest S sk y S') : S'.1 = S.1 := by
  have h := hx
  (repeat obtain ⟨_, h⟩ := h)
  rfl
set_option maxHeartbeats 4000000 in
theorem lc_letter (F : gOK p s m #[Value.ref b] meth c cL_law 4 RL wsL_law E A) (hX : va_X b L xs s s.heap) (hbl : b < s.heap.size) (hbA : ¬ A b) (hL : L ≤ 2048) (hi : i + 4 ≤ L) (hS : isHs S.1 tl) (hR : Rel i S f A9) (hk : k ≤ 500000) (hn : n ≤ 7000000) (nx : ∀ (S' : gSt) (f' : gF) (hh' : Int64) (A' : gA) (tl' : va_W), isHs S'.1 tl' → Rel (i + 4) S' f' A' → gW p l e room_1 s m #[Value.ref b] below meth c E A 4 Q 726 [(0, .ref b), (1, .ref D.1), (2, .ref (a 32)), (3, .int (nI i))] [] (xW E D S' (mC E a f' hh' A' ++ tl')) (k + 6) (n + 18)) : gW p l e room_1 s m #[Value.ref b] below meth c E A 4 Q 148 [(0, .ref b), (1, .ref D.1), (2, .ref (a 32)), (3, .int (nI i))] [] (xW E D S (mC E a f hh A9 ++ tl)) k n := by
  refine q_aload_n F 1 dL_law_148 rfl ?_
  refine q_aload_n F 0 dL_law_149 rfl ?_
  refine q_iload_n F 3 dL_law_150 rfl ?_
  refine q_iconst F dL_law_151 (v := nI 1) (by decide) ?_
  refine q_iadd F dL_law_152 ?_
  refine q_toi (nI (i + 1)) (nI_add _ _) ?_
  refine q_sld F hX hbl hbA (i + 1) (by omega) (by omega) dL_law_153 ?_
  refine q_callV F (ci := 10) (As := [.int (xs (i + 1))]) (rest := []) (xW_mem E D S _) rfl (x_letter l E D S (mC E a f hh A9 ++ tl) (isHs.r _ hS) hR.1.1 hR.2.2.2.1.1 (xs (i + 1))) (List.Perm.refl _) gL_law_X10_letter rfl rfl rfl (by show yX10_letter.cls = RX10 ∧ yX10_letter.cls ≠ "java/lang/invoke/MethodHandle" ∧ yX10_letter.cls ≠ "java/lang/invoke/VarHandle" ∧ (parseMethodDescriptor yX10_letter.desc).map (fun d => d.parameters.length) = some 1; decide +kernel) ⟨Nat.le_of_ble_eq_true rfl, Nat.le_of_ble_eq_true rfl⟩ rfl (Nat.le_of_ble_eq_true rfl) dL_law_154 ⟨by show k + 0 ≤ 600000; omega, by show n + 0 ≤ 7302250; omega⟩ (fun v_ w_ hvw => ?_)
  obtain ⟨y, S', rfl, rfl, hx⟩ := hvw
  refine q_at (pc' := 157) (st' := [.int y]) (ws' := xW E D S' (mC E a f hh A9 ++ tl)) (k' := k) (n' := n) rfl rfl rfl rfl rfl ?_
  refine q_aload_n F 2 dL_law_157 rfl ?_
  refine q_aload_n F 0 dL_law_158 rfl ?_
  refine q_iload_n F 3 dL_law_159 rfl ?_
  refine q_iconst F dL_law_160 (v := nI 1) (by decide) ?_
  refine q_iadd F dL_law_161 ?_
  refine q_toi (nI (i + 1)) (nI_add _ _) ?_
  refine q_sld F hX hbl hbA (i + 1) (by omega) (by omega) dL_law_162 ?_
  obtain ⟨fs_, hm_⟩ := mC_mem E a f hh A9 tl
  refine q_callV F (ci := 11) (As := [.int (xs (i + 1))]) (rest := [.int y]) (xW_tl hm_) rfl (p_letter hR hx) xW_pm gL_law_X11_letter rfl rfl rfl (by show yX11_letter.cls = RX11 ∧ yX11_letter.cls ≠ "java/lang/invoke/MethodHandle" ∧ yX11_letter.cls ≠ "java/lang/invoke/VarHandle" ∧ (parseMethodDescriptor yX11_letter.desc).map (fun d => d.parameters.length) = some 1; decide +kernel) ⟨Nat.le_of_ble_eq_true rfl, Nat.le_of_ble_eq_true rfl⟩ rfl (Nat.le_of_ble_eq_true rfl) dL_law_163 ⟨by show k + 0 ≤ 600000; omega, by show n + 0 ≤ 7302250; omega⟩ (fun v_ w_ hvw => ?_)
  obtain ⟨rfl, f', hh', A', rfl, hR'⟩ := hvw
  refine q_perm xW_pm.symm ?_
  refine q_at (pc' := 166) (st' := [.int y, .int y]) (ws' := xW E D S' (mC E a f' hh' A' ++ tl)) (k' := k) (n' := n) rfl rfl rfl rfl rfl ?_
  refine q_icmp_eq F (tgt := 726) dL_law_166 (by decide) (fun _ => ?_) (fun h => absurd rfl h)
  have hT : S'.1 = S.1 := tS_letter hx
  exact q_widen (by omega) (by omega) (nx S' f' hh' A' tl (hT ▸ hS) hR')
set_option maxHeartbeats 4000000 in
theorem lc_blank (F : gOK p s m #[Value.ref b] meth c cL_law 4 RL wsL_law E A) (hX : va_X b L xs s s.heap) (hbl : b < s.heap.size) (hbA : ¬ A b) (hL : L ≤ 2048) (hi : i + 4 ≤ L) (hS : isHs S.1 tl) (hR : Rel i S f A9) (hk : k ≤ 500000) (hn : n ≤ 7000000) (nx : ∀ (S' : gSt) (f' : gF) (hh' : Int64) (A' : gA) (tl' : va_W), isHs S'.1 tl' → Rel (i + 4) S' f' A' → gW p l e room_1 s m #[Value.ref b] below meth c E A 4 Q 726 [(0, .ref b), (1, .ref D.1), (2, .ref (a 32)), (3, .int (nI i))] [] (xW E D S' (mC E a f' hh' A' ++ tl')) (k + 6) (n + 18)) : gW p l e room_1 s m #[Value.ref b] below meth c E A 4 Q 171 [(0, .ref b), (1, .ref D.1), (2, .ref (a 32)), (3, .int (nI i))] [] (xW E D S (mC E a f hh A9 ++ tl)) k n := by
  refine q_aload_n F 1 dL_law_171 rfl ?_
  refine q_callV F (ci := 10) (As := []) (rest := []) (xW_mem E D S _) rfl (x_blank l E D S (mC E a f hh A9 ++ tl) (isHs.r _ hS) hR.1.1 hR.2.2.2.1.1 ) (List.Perm.refl _) gL_law_X10_blank rfl rfl rfl (by show yX10_blank.cls = RX10 ∧ yX10_blank.cls ≠ "java/lang/invoke/MethodHandle" ∧ yX10_blank.cls ≠ "java/lang/invoke/VarHandle" ∧ (parseMethodDescriptor yX10_blank.desc).map (fun d => d.parameters.length) = some 0; decide +kernel) ⟨Nat.le_of_ble_eq_true rfl, Nat.le_of_ble_eq_true rfl⟩ rfl (Nat.le_of_ble_eq_true rfl) dL_law_172 ⟨by show k + 0 ≤ 600000; omega, by show n + 0 ≤ 7302250; omega⟩ (fun v_ w_ hvw => ?_)
  obtain ⟨y, S', rfl, rfl, hx⟩ := hvw
  refine q_at (pc' := 175) (st' := [.int y]) (ws' := xW E D S' (mC E a f hh A9 ++ tl)) (k' := k) (n' := n) rfl rfl rfl rfl rfl ?_
  refine q_aload_n F 2 dL_law_175 rfl ?_
  obtain ⟨fs_, hm_⟩ := mC_mem E a f hh A9 tl
  refine q_callV F (ci := 11) (As := []) (rest := [.int y]) (xW_tl hm_) rfl (p_blank hR hx) xW_pm gL_law_X11_blank rfl rfl rfl (by show yX11_blank.cls = RX11 ∧ yX11_blank.cls ≠ "java/lang/invoke/MethodHandle" ∧ yX11_blank.cls ≠ "java/lang/invoke/VarHandle" ∧ (parseMethodDescriptor yX11_blank.desc).map (fun d => d.parameters.length) = some 0; decide +kernel) ⟨Nat.le_of_ble_eq_true rfl, Nat.le_of_ble_eq_true rfl⟩ rfl (Nat.le_of_ble_eq_true rfl) dL_law_176 ⟨by show k + 0 ≤ 600000; omega, by show n + 0 ≤ 7302250; omega⟩ (fun v_ w_ hvw => ?_)
  obtain ⟨rfl, f', hh', A', rfl, hR'⟩ := hvw
  refine q_perm xW_pm.symm ?_
  refine q_at (pc' := 179) (st' := [.int y, .int y]) (ws' := xW E D S' (mC E a f' hh' A' ++ tl)) (k' := k) (n' := n) rfl rfl rfl rfl rfl ?_
  refine q_icmp_eq F (tgt := 726) dL_law_179 (by decide) (fun _ => ?_) (fun h => absurd rfl h)
  have hT : S'.1 = S.1 := tS_blank hx
  exact q_widen (by omega) (by omega) (nx S' f' hh' A' tl (hT ▸ hS) hR')
set_option maxHeartbeats 4000000 in
theorem lc_fault (F : gOK p s m #[Value.ref b] meth c cL_law 4 RL wsL_law E A) (hX : va_X b L xs s s.heap) (hbl : b < s.heap.size) (hbA : ¬ A b) (hL : L ≤ 2048) (hi : i + 4 ≤ L) (hS : isHs S.1 tl) (hR : Rel i S f A9) (hk : k ≤ 500000) (hn : n ≤ 7000000) (nx : ∀ (S' : gSt) (f' : gF) (hh' : Int64) (A' : gA) (tl' : va_W), isHs S'.1 tl' → Rel (i + 4) S' f' A' → gW p l e room_1 s m #[Value.ref b] below meth c E A 4 Q 726 [(0, .ref b), (1, .ref D.1), (2, .ref (a 32)), (3, .int (nI i))] [] (xW E D S' (mC E a f' hh' A' ++ tl')) (k + 6) (n + 18)) : gW p l e room_1 s m #[Value.ref b] below meth c E A 4 Q 184 [(0, .ref b), (1, .ref D.1), (2, .ref (a 32)), (3, .int (nI i))] [] (xW E D S (mC E a f hh A9 ++ tl)) k n := by
  refine q_aload_n F 1 dL_law_184 rfl ?_
  refine q_callV F (ci := 10) (As := []) (rest := []) (xW_mem E D S _) rfl (x_fault l E D S (mC E a f hh A9 ++ tl) (isHs.r _ hS) hR.1.1 hR.2.2.2.1.1 (fun j hj => (hR.2.2.2.1.2.2 j hj).2)) (List.Perm.refl _) gL_law_X10_fault rfl rfl rfl (by show yX10_fault.cls = RX10 ∧ yX10_fault.cls ≠ "java/lang/invoke/MethodHandle" ∧ yX10_fault.cls ≠ "java/lang/invoke/VarHandle" ∧ (parseMethodDescriptor yX10_fault.desc).map (fun d => d.parameters.length) = some 0; decide +kernel) ⟨Nat.le_of_ble_eq_true rfl, Nat.le_of_ble_eq_true rfl⟩ rfl (Nat.le_of_ble_eq_true rfl) dL_law_185 ⟨by show k + 0 ≤ 600000; omega, by show n + 0 ≤ 7302250; omega⟩ (fun v_ w_ hvw => ?_)
  obtain ⟨y, S', rfl, rfl, hx⟩ := hvw
  refine q_at (pc' := 188) (st' := [.int y]) (ws' := xW E D S' (mC E a f hh A9 ++ tl)) (k' := k) (n' := n) rfl rfl rfl rfl rfl ?_
  refine q_aload_n F 2 dL_law_188 rfl ?_
  obtain ⟨fs_, hm_⟩ := mC_mem E a f hh A9 tl
  refine q_callV F (ci := 11) (As := []) (rest := [.int y]) (xW_tl hm_) rfl (p_fault hR hx) xW_pm gL_law_X11_fault rfl rfl rfl (by show yX11_fault.cls = RX11 ∧ yX11_fault.cls ≠ "java/lang/invoke/MethodHandle" ∧ yX11_fault.cls ≠ "java/lang/invoke/VarHandle" ∧ (parseMethodDescriptor yX11_fault.desc).map (fun d => d.parameters.length) = some 0; decide +kernel) ⟨Nat.le_of_ble_eq_true rfl, Nat.le_of_ble_eq_true rfl⟩ rfl (Nat.le_of_ble_eq_true rfl) dL_law_189 ⟨by show k + 0 ≤ 600000; omega, by show n + 0 ≤ 7302250; omega⟩ (fun v_ w_ hvw => ?_)
  obtain ⟨rfl, f', hh', A', rfl, hR'⟩ := hvw
  refine q_perm xW_pm.symm ?_
  refine q_at (pc' := 192) (st' := [.int y, .int y]) (ws' := xW E D S' (mC E a f' hh' A' ++ tl)) (k' := k) (n' := n) rfl rfl rfl rfl rfl ?_
  refine q_icmp_eq F (tgt := 726) dL_law_192 (by decide) (fun _ => ?_) (fun h => absurd rfl h)
  have hT : S'.1 = S.1 := tS_fault hx
  exact q_widen (by omega) (by omega) (nx S' f' hh' A' tl (hT ▸ hS) hR')
set_option maxHeartbeats 4000000 in
theorem lc_town (F : gOK p s m #[Value.ref b] meth c cL_law 4 RL wsL_law E A) (hX : va_X b L xs s s.heap) (hbl : b < s.heap.size) (hbA : ¬ A b) (hL : L ≤ 2048) (hi : i + 4 ≤ L) (hS : isHs S.1 tl) (hR : Rel i S f A9) (hk : k ≤ 500000) (hn : n ≤ 7000000) (nx : ∀ (S' : gSt) (f' : gF) (hh' : Int64) (A' : gA) (tl' : va_W), isHs S'.1 tl' → Rel (i + 4) S' f' A' → gW p l e room_1 s m #[Value.ref b] below meth c E A 4 Q 726 [(0, .ref b), (1, .ref D.1), (2, .ref (a 32)), (3, .int (nI i))] [] (xW E D S' (mC E a f' hh' A' ++ tl')) (k + 6) (n + 18)) : gW p l e room_1 s m #[Value.ref b] below meth c E A 4 Q 197 [(0, .ref b), (1, .ref D.1), (2, .ref (a 32)), (3, .int (nI i))] [] (xW E D S (mC E a f hh A9 ++ tl)) k n := by
  refine q_aload_n F 1 dL_law_197 rfl ?_
  refine q_callV F (ci := 10) (As := []) (rest := []) (xW_mem E D S _) rfl (x_town l E D S (mC E a f hh A9 ++ tl) (isHs.r _ hS) hR.1.1 hR.2.2.2.1.1 (fun j hj => (hR.2.2.2.1.2.2 j hj).2)) (List.Perm.refl _) gL_law_X10_town rfl rfl rfl (by show yX10_town.cls = RX10 ∧ yX10_town.cls ≠ "java/lang/invoke/MethodHandle" ∧ yX10_town.cls ≠ "java/lang/invoke/VarHandle" ∧ (parseMethodDescriptor yX10_town.desc).map (fun d => d.parameters.length) = some 0; decide +kernel) ⟨Nat.le_of_ble_eq_true rfl, Nat.le_of_ble_eq_true rfl⟩ rfl (Nat.le_of_ble_eq_true rfl) dL_law_198 ⟨by show k + 6 ≤ 600000; omega, by show n + 18 ≤ 7302250; omega⟩ (fun v_ w_ hvw => ?_)
  obtain ⟨y, S', X, rfl, rfl, hx⟩ := hvw
  refine q_perm (xW_cg (List.perm_append_comm_assoc _ _ _)) ?_
  refine q_at (pc' := 201) (st' := [.int y]) (ws' := xW E D S' (mC E a f hh A9 ++ (X ++ tl))) (k' := (k + 6)) (n' := (n + 18)) rfl rfl rfl rfl rfl ?_
  refine q_aload_n F 2 dL_law_201 rfl ?_
  obtain ⟨fs_, hm_⟩ := mC_mem E a f hh A9 (X ++ tl)
  refine q_callV F (ci := 11) (As := []) (rest := [.int y]) (xW_tl hm_) rfl (p_town hR hx) xW_pm gL_law_X11_town rfl rfl rfl (by show yX11_town.cls = RX11 ∧ yX11_town.cls ≠ "java/lang/invoke/MethodHandle" ∧ yX11_town.cls ≠ "java/lang/invoke/VarHandle" ∧ (parseMethodDescriptor yX11_town.desc).map (fun d => d.parameters.length) = some 0; decide +kernel) ⟨Nat.le_of_ble_eq_true rfl, Nat.le_of_ble_eq_true rfl⟩ rfl (Nat.le_of_ble_eq_true rfl) dL_law_202 ⟨by show k + 6 + 0 ≤ 600000; omega, by show n + 18 + 0 ≤ 7302250; omega⟩ (fun v_ w_ hvw => ?_)
  obtain ⟨rfl, f', hh', A', rfl, hR'⟩ := hvw
  refine q_perm xW_pm.symm ?_
  refine q_at (pc' := 205) (st' := [.int y, .int y]) (ws' := xW E D S' (mC E a f' hh' A' ++ (X ++ tl))) (k' := (k + 6)) (n' := (n + 18)) rfl rfl rfl rfl rfl ?_
  refine q_icmp_eq F (tgt := 726) dL_law_205 (by decide) (fun _ => ?_) (fun h => absurd rfl h)
  have hT : isHs S'.1 (X ++ tl) := by
    rcases hx with ⟨-, -, e1, e2⟩ | ⟨-, ad, -, e1, e2⟩
    · rw [e1, e2]; exact hS
    · rw [e1]; exact isHs_l e2
  exact nx S' f' hh' A' _ hT hR'
set_option maxHeartbeats 4000000 in
theorem lc_about (F : gOK p s m #[Value.ref b] meth c cL_law 4 RL wsL_law E A) (hX : va_X b L xs s s.heap) (hbl : b < s.heap.size) (hbA : ¬ A b) (hL : L ≤ 2048) (hi : i + 4 ≤ L) (hS : isHs S.1 tl) (hR : Rel i S f A9) (hk : k ≤ 500000) (hn : n ≤ 7000000) (nx : ∀ (S' : gSt) (f' : gF) (hh' : Int64) (A' : gA) (tl' : va_W), isHs S'.1 tl' → Rel (i + 4) S' f' A' → gW p l e room_1 s m #[Value.ref b] below meth c E A 4 Q 726 [(0, .ref b), (1, .ref D.1), (2, .ref (a 32)), (3, .int (nI i))] [] (xW E D S' (mC E a f' hh' A' ++ tl')) (k + 6) (n + 18)) : gW p l e room_1 s m #[Value.ref b] below meth c E A 4 Q 210 [(0, .ref b), (1, .ref D.1), (2, .ref (a 32)), (3, .int (nI i))] [] (xW E D S (mC E a f hh A9 ++ tl)) k n := by
  refine q_aload_n F 1 dL_law_210 rfl ?_
  refine q_aload_n F 0 dL_law_211 rfl ?_
  refine q_iload_n F 3 dL_law_212 rfl ?_
  refine q_iconst F dL_law_213 (v := nI 1) (by decide) ?_
  refine q_iadd F dL_law_214 ?_
  refine q_toi (nI (i + 1)) (nI_add _ _) ?_
  refine q_sld F hX hbl hbA (i + 1) (by omega) (by omega) dL_law_215 ?_
  refine q_aload_n F 0 dL_law_216 rfl ?_
  refine q_iload_n F 3 dL_law_217 rfl ?_
  refine q_iconst F dL_law_218 (v := nI 2) (by decide) ?_
  refine q_iadd F dL_law_219 ?_
  refine q_toi (nI (i + 2)) (nI_add _ _) ?_
  refine q_sld F hX hbl hbA (i + 2) (by omega) (by omega) dL_law_220 ?_
  refine q_callV F (ci := 10) (As := [.int (xs (i + 1)), .int (xs (i + 2))]) (rest := []) (xW_mem E D S _) rfl (x_about l E D S (mC E a f hh A9 ++ tl) (isHs.r _ hS) hR.1.1 hR.2.2.2.1.1 (xs (i + 1)) (xs (i + 2))) (List.Perm.refl _) gL_law_X10_about rfl rfl rfl (by show yX10_about.cls = RX10 ∧ yX10_about.cls ≠ "java/lang/invoke/MethodHandle" ∧ yX10_about.cls ≠ "java/lang/invoke/VarHandle" ∧ (parseMethodDescriptor yX10_about.desc).map (fun d => d.parameters.length) = some 2; decide +kernel) ⟨Nat.le_of_ble_eq_true rfl, Nat.le_of_ble_eq_true rfl⟩ rfl (Nat.le_of_ble_eq_true rfl) dL_law_221 ⟨by show k + 0 ≤ 600000; omega, by show n + 0 ≤ 7302250; omega⟩ (fun v_ w_ hvw => ?_)
  obtain ⟨y, S', rfl, rfl, hx⟩ := hvw
  refine q_at (pc' := 224) (st' := [.int y]) (ws' := xW E D S' (mC E a f hh A9 ++ tl)) (k' := k) (n' := n) rfl rfl rfl rfl rfl ?_
  refine q_aload_n F 2 dL_law_224 rfl ?_
  refine q_aload_n F 0 dL_law_225 rfl ?_
  refine q_iload_n F 3 dL_law_226 rfl ?_
  refine q_iconst F dL_law_227 (v := nI 1) (by decide) ?_
  refine q_iadd F dL_law_228 ?_
  refine q_toi (nI (i + 1)) (nI_add _ _) ?_
  refine q_sld F hX hbl hbA (i + 1) (by omega) (by omega) dL_law_229 ?_
  refine q_aload_n F 0 dL_law_230 rfl ?_
  refine q_iload_n F 3 dL_law_231 rfl ?_
  refine q_iconst F dL_law_232 (v := nI 2) (by decide) ?_
  refine q_iadd F dL_law_233 ?_
  refine q_toi (nI (i + 2)) (nI_add _ _) ?_
  refine q_sld F hX hbl hbA (i + 2) (by omega) (by omega) dL_law_234 ?_
  obtain ⟨fs_, hm_⟩ := mC_mem E a f hh A9 tl
  refine q_callV F (ci := 11) (As := [.int (xs (i + 1)), .int (xs (i + 2))]) (rest := [.int y]) (xW_tl hm_) rfl (p_about hR hx) xW_pm gL_law_X11_about rfl rfl rfl (by show yX11_about.cls = RX11 ∧ yX11_about.cls ≠ "java/lang/invoke/MethodHandle" ∧ yX11_about.cls ≠ "java/lang/invoke/VarHandle" ∧ (parseMethodDescriptor yX11_about.desc).map (fun d => d.parameters.length) = some 2; decide +kernel) ⟨Nat.le_of_ble_eq_true rfl, Nat.le_of_ble_eq_true rfl⟩ rfl (Nat.le_of_ble_eq_true rfl) dL_law_235 ⟨by show k + 0 ≤ 600000; omega, by show n + 0 ≤ 7302250; omega⟩ (fun v_ w_ hvw => ?_)
  obtain ⟨rfl, f', hh', A', rfl, hR'⟩ := hvw
  refine q_perm xW_pm.symm ?_
  refine q_at (pc' := 238) (st' := [.int y, .int y]) (ws' := xW E D S' (mC E a f' hh' A' ++ tl)) (k' := k) (n' := n) rfl rfl rfl rfl rfl ?_
  refine q_icmp_eq F (tgt := 726) dL_law_238 (by decide) (fun _ => ?_) (fun h => absurd rfl h)
  have hT : S'.1 = S.1 := tS_about hx
  exact q_widen (by omega) (by omega) (nx S' f' hh' A' tl (hT ▸ hS) hR')
set_option maxHeartbeats 4000000 in
theorem lc_as (F : gOK p s m #[Value.ref b] meth c cL_law 4 RL wsL_law E A) (hX : va_X b L xs s s.heap) (hbl : b < s.heap.size) (hbA : ¬ A b) (hL : L ≤ 2048) (hi : i + 4 ≤ L) (hS : isHs S.1 tl) (hR : Rel i S f A9) (hk : k ≤ 500000) (hn : n ≤ 7000000) (nx : ∀ (S' : gSt) (f' : gF) (hh' : Int64) (A' : gA) (tl' : va_W), isHs S'.1 tl' → Rel (i + 4) S' f' A' → gW p l e room_1 s m #[Value.ref b] below meth c E A 4 Q 726 [(0, .ref b), (1, .ref D.1), (2, .ref (a 32)), (3, .int (nI i))] [] (xW E D S' (mC E a f' hh' A' ++ tl')) (k + 6) (n + 18)) : gW p l e room_1 s m #[Value.ref b] below meth c E A 4 Q 243 [(0, .ref b), (1, .ref D.1), (2, .ref (a 32)), (3, .int (nI i))] [] (xW E D S (mC E a f hh A9 ++ tl)) k n := by
  refine q_aload_n F 1 dL_law_243 rfl ?_
  refine q_aload_n F 0 dL_law_244 rfl ?_
  refine q_iload_n F 3 dL_law_245 rfl ?_
  refine q_iconst F dL_law_246 (v := nI 1) (by decide) ?_
  refine q_iadd F dL_law_247 ?_
  refine q_toi (nI (i + 1)) (nI_add _ _) ?_
  refine q_sld F hX hbl hbA (i + 1) (by omega) (by omega) dL_law_248 ?_
  refine q_aload_n F 0 dL_law_249 rfl ?_
  refine q_iload_n F 3 dL_law_250 rfl ?_
  refine q_iconst F dL_law_251 (v := nI 2) (by decide) ?_
  refine q_iadd F dL_law_252 ?_
  refine q_toi (nI (i + 2)) (nI_add _ _) ?_
  refine q_sld F hX hbl hbA (i + 2) (by omega) (by omega) dL_law_253 ?_
  refine q_callV F (ci := 10) (As := [.int (xs (i + 1)), .int (xs (i + 2))]) (rest := []) (xW_mem E D S _) rfl (x_as l E D S (mC E a f hh A9 ++ tl) (isHs.r _ hS) hR.1.1 hR.2.2.2.1.1 (xs (i + 1)) (xs (i + 2))) (List.Perm.refl _) gL_law_X10_as rfl rfl rfl (by show yX10_as.cls = RX10 ∧ yX10_as.cls ≠ "java/lang/invoke/MethodHandle" ∧ yX10_as.cls ≠ "java/lang/invoke/VarHandle" ∧ (parseMethodDescriptor yX10_as.desc).map (fun d => d.parameters.length) = some 2; decide +kernel) ⟨Nat.le_of_ble_eq_true rfl, Nat.le_of_ble_eq_true rfl⟩ rfl (Nat.le_of_ble_eq_true rfl) dL_law_254 ⟨by show k + 0 ≤ 600000; omega, by show n + 0 ≤ 7302250; omega⟩ (fun v_ w_ hvw => ?_)
  obtain ⟨y, S', rfl, rfl, hx⟩ := hvw
  refine q_at (pc' := 257) (st' := [.int y]) (ws' := xW E D S' (mC E a f hh A9 ++ tl)) (k' := k) (n' := n) rfl rfl rfl rfl rfl ?_
  refine q_aload_n F 2 dL_law_257 rfl ?_
  refine q_aload_n F 0 dL_law_258 rfl ?_
  refine q_iload_n F 3 dL_law_259 rfl ?_
  refine q_iconst F dL_law_260 (v := nI 1) (by decide) ?_
  refine q_iadd F dL_law_261 ?_
  refine q_toi (nI (i + 1)) (nI_add _ _) ?_
  refine q_sld F hX hbl hbA (i + 1) (by omega) (by omega) dL_law_262 ?_
  refine q_aload_n F 0 dL_law_263 rfl ?_
  refine q_iload_n F 3 dL_law_264 rfl ?_
  refine q_iconst F dL_law_265 (v := nI 2) (by decide) ?_
  refine q_iadd F dL_law_266 ?_
  refine q_toi (nI (i + 2)) (nI_add _ _) ?_
  refine q_sld F hX hbl hbA (i + 2) (by omega) (by omega) dL_law_267 ?_
  obtain ⟨fs_, hm_⟩ := mC_mem E a f hh A9 tl
  refine q_callV F (ci := 11) (As := [.int (xs (i + 1)), .int (xs (i + 2))]) (rest := [.int y]) (xW_tl hm_) rfl (p_as hR hx) xW_pm gL_law_X11_as rfl rfl rfl (by show yX11_as.cls = RX11 ∧ yX11_as.cls ≠ "java/lang/invoke/MethodHandle" ∧ yX11_as.cls ≠ "java/lang/invoke/VarHandle" ∧ (parseMethodDescriptor yX11_as.desc).map (fun d => d.parameters.length) = some 2; decide +kernel) ⟨Nat.le_of_ble_eq_true rfl, Nat.le_of_ble_eq_true rfl⟩ rfl (Nat.le_of_ble_eq_true rfl) dL_law_268 ⟨by show k + 0 ≤ 600000; omega, by show n + 0 ≤ 7302250; omega⟩ (fun v_ w_ hvw => ?_)
  obtain ⟨rfl, f', hh', A', rfl, hR'⟩ := hvw
  refine q_perm xW_pm.symm ?_
  refine q_at (pc' := 271) (st' := [.int y, .int y]) (ws' := xW E D S' (mC E a f' hh' A' ++ tl)) (k' := k) (n' := n) rfl rfl rfl rfl rfl ?_
  refine q_icmp_eq F (tgt := 726) dL_law_271 (by decide) (fun _ => ?_) (fun h => absurd rfl h)
  have hT : S'.1 = S.1 := tS_as hx
  exact q_widen (by omega) (by omega) (nx S' f' hh' A' tl (hT ▸ hS) hR')
set_option maxHeartbeats 4000000 in
theorem lc_shut (F : gOK p s m #[Value.ref b] meth c cL_law 4 RL wsL_law E A) (hX : va_X b L xs s s.heap) (hbl : b < s.heap.size) (hbA : ¬ A b) (hL : L ≤ 2048) (hi : i + 4 ≤ L) (hS : isHs S.1 tl) (hR : Rel i S f A9) (hk : k ≤ 500000) (hn : n ≤ 7000000) (nx : ∀ (S' : gSt) (f' : gF) (hh' : Int64) (A' : gA) (tl' : va_W), isHs S'.1 tl' → Rel (i + 4) S' f' A' → gW p l e room_1 s m #[Value.ref b] below meth c E A 4 Q 726 [(0, .ref b), (1, .ref D.1), (2, .ref (a 32)), (3, .int (nI i))] [] (xW E D S' (mC E a f' hh' A' ++ tl')) (k + 6) (n + 18)) : gW p l e room_1 s m #[Value.ref b] below meth c E A 4 Q 276 [(0, .ref b), (1, .ref D.1), (2, .ref (a 32)), (3, .int (nI i))] [] (xW E D S (mC E a f hh A9 ++ tl)) k n := by
  by_cases hb0 : xs (i + 2) = 0
  · skip
    refine q_aload_n F 1 dL_law_276 rfl ?_
    refine q_aload_n F 0 dL_law_277 rfl ?_
    refine q_iload_n F 3 dL_law_278 rfl ?_
    refine q_iconst F dL_law_279 (v := nI 1) (by decide) ?_
    refine q_iadd F dL_law_280 ?_
    refine q_toi (nI (i + 1)) (nI_add _ _) ?_
    refine q_sld F hX hbl hbA (i + 1) (by omega) (by omega) dL_law_281 ?_
    refine q_aload_n F 0 dL_law_282 rfl ?_
    refine q_iload_n F 3 dL_law_283 rfl ?_
    refine q_iconst F dL_law_284 (v := nI 2) (by decide) ?_
    refine q_iadd F dL_law_285 ?_
    refine q_toi (nI (i + 2)) (nI_add _ _) ?_
    refine q_sld F hX hbl hbA (i + 2) (by omega) (by omega) dL_law_286 ?_
    refine q_if_eq F (tgt := 294) dL_law_287 (by decide) (fun _ => ?_) (fun h => absurd hb0 h)
    refine q_iconst F dL_law_294 (v := nI 0) (by decide) ?_
    refine q_callV F (ci := 10) (As := [.int (xs (i + 1)), .int (nI 0)]) (rest := []) (xW_mem E D S _) rfl (x_shut l E D S (mC E a f hh A9 ++ tl) (isHs.r _ hS) hR.1.1 hR.2.2.2.1.1 (xs (i + 1)) (nI 0)) (List.Perm.refl _) gL_law_X10_shut rfl rfl rfl (by show yX10_shut.cls = RX10 ∧ yX10_shut.cls ≠ "java/lang/invoke/MethodHandle" ∧ yX10_shut.cls ≠ "java/lang/invoke/VarHandle" ∧ (parseMethodDescriptor yX10_shut.desc).map (fun d => d.parameters.length) = some 2; decide +kernel) ⟨Nat.le_of_ble_eq_true rfl, Nat.le_of_ble_eq_true rfl⟩ rfl (Nat.le_of_ble_eq_true rfl) dL_law_295 ⟨by show k + 0 ≤ 600000; omega, by show n + 0 ≤ 7302250; omega⟩ (fun v_ w_ hvw => ?_)
    obtain ⟨y, S', rfl, rfl, hx⟩ := hvw
    refine q_at (pc' := 298) (st' := [.int y]) (ws' := xW E D S' (mC E a f hh A9 ++ tl)) (k' := k) (n' := n) rfl rfl rfl rfl rfl ?_
    refine q_aload_n F 2 dL_law_298 rfl ?_
    refine q_aload_n F 0 dL_law_299 rfl ?_
    refine q_iload_n F 3 dL_law_300 rfl ?_
    refine q_iconst F dL_law_301 (v := nI 1) (by decide) ?_
    refine q_iadd F dL_law_302 ?_
    refine q_toi (nI (i + 1)) (nI_add _ _) ?_
    refine q_sld F hX hbl hbA (i + 1) (by omega) (by omega) dL_law_303 ?_
    refine q_aload_n F 0 dL_law_304 rfl ?_
    refine q_iload_n F 3 dL_law_305 rfl ?_
    refine q_iconst F dL_law_306 (v := nI 2) (by decide) ?_
    refine q_iadd F dL_law_307 ?_
    refine q_toi (nI (i + 2)) (nI_add _ _) ?_
    refine q_sld F hX hbl hbA (i + 2) (by omega) (by omega) dL_law_308 ?_
    refine q_if_eq F (tgt := 316) dL_law_309 (by decide) (fun _ => ?_) (fun h => absurd hb0 h)
    refine q_iconst F dL_law_316 (v := nI 0) (by decide) ?_
    obtain ⟨fs_, hm_⟩ := mC_mem E a f hh A9 tl
    refine q_callV F (ci := 11) (As := [.int (xs (i + 1)), .int (nI 0)]) (rest := [.int y]) (xW_tl hm_) rfl (p_shut hR hx) xW_pm gL_law_X11_shut rfl rfl rfl (by show yX11_shut.cls = RX11 ∧ yX11_shut.cls ≠ "java/lang/invoke/MethodHandle" ∧ yX11_shut.cls ≠ "java/lang/invoke/VarHandle" ∧ (parseMethodDescriptor yX11_shut.desc).map (fun d => d.parameters.length) = some 2; decide +kernel) ⟨Nat.le_of_ble_eq_true rfl, Nat.le_of_ble_eq_true rfl⟩ rfl (Nat.le_of_ble_eq_true rfl) dL_law_317 ⟨by show k + 0 ≤ 600000; omega, by show n + 0 ≤ 7302250; omega⟩ (fun v_ w_ hvw => ?_)
    obtain ⟨rfl, f', hh', A', rfl, hR'⟩ := hvw
    refine q_perm xW_pm.symm ?_
    refine q_at (pc' := 320) (st' := [.int y, .int y]) (ws' := xW E D S' (mC E a f' hh' A' ++ tl)) (k' := k) (n' := n) rfl rfl rfl rfl rfl ?_
    refine q_icmp_eq F (tgt := 726) dL_law_320 (by decide) (fun _ => ?_) (fun h => absurd rfl h)
    have hT : S'.1 = S.1 := tS_shut hx
    exact q_widen (by omega) (by omega) (nx S' f' hh' A' tl (hT ▸ hS) hR')
  · skip
    refine q_aload_n F 1 dL_law_276 rfl ?_
    refine q_aload_n F 0 dL_law_277 rfl ?_
    refine q_iload_n F 3 dL_law_278 rfl ?_
    refine q_iconst F dL_law_279 (v := nI 1) (by decide) ?_
    refine q_iadd F dL_law_280 ?_
    refine q_toi (nI (i + 1)) (nI_add _ _) ?_
    refine q_sld F hX hbl hbA (i + 1) (by omega) (by omega) dL_law_281 ?_
    refine q_aload_n F 0 dL_law_282 rfl ?_
    refine q_iload_n F 3 dL_law_283 rfl ?_
    refine q_iconst F dL_law_284 (v := nI 2) (by decide) ?_
    refine q_iadd F dL_law_285 ?_
    refine q_toi (nI (i + 2)) (nI_add _ _) ?_
    refine q_sld F hX hbl hbA (i + 2) (by omega) (by omega) dL_law_286 ?_
    refine q_if_eq F (tgt := 294) dL_law_287 (by decide) (fun h => absurd h hb0) (fun _ => ?_)
    refine q_iconst F dL_law_290 (v := nI 1) (by decide) ?_
    refine q_goto F (tgt := 295) dL_law_291 (by decide) ?_
    refine q_callV F (ci := 10) (As := [.int (xs (i + 1)), .int (nI 1)]) (rest := []) (xW_mem E D S _) rfl (x_shut l E D S (mC E a f hh A9 ++ tl) (isHs.r _ hS) hR.1.1 hR.2.2.2.1.1 (xs (i + 1)) (nI 1)) (List.Perm.refl _) gL_law_X10_shut rfl rfl rfl (by show yX10_shut.cls = RX10 ∧ yX10_shut.cls ≠ "java/lang/invoke/MethodHandle" ∧ yX10_shut.cls ≠ "java/lang/invoke/VarHandle" ∧ (parseMethodDescriptor yX10_shut.desc).map (fun d => d.parameters.length) = some 2; decide +kernel) ⟨Nat.le_of_ble_eq_true rfl, Nat.le_of_ble_eq_true rfl⟩ rfl (Nat.le_of_ble_eq_true rfl) dL_law_295 ⟨by show k + 0 ≤ 600000; omega, by show n + 0 ≤ 7302250; omega⟩ (fun v_ w_ hvw => ?_)
    obtain ⟨y, S', rfl, rfl, hx⟩ := hvw
    refine q_at (pc' := 298) (st' := [.int y]) (ws' := xW E D S' (mC E a f hh A9 ++ tl)) (k' := k) (n' := n) rfl rfl rfl rfl rfl ?_
    refine q_aload_n F 2 dL_law_298 rfl ?_
    refine q_aload_n F 0 dL_law_299 rfl ?_
    refine q_iload_n F 3 dL_law_300 rfl ?_
    refine q_iconst F dL_law_301 (v := nI 1) (by decide) ?_
    refine q_iadd F dL_law_302 ?_
    refine q_toi (nI (i + 1)) (nI_add _ _) ?_
    refine q_sld F hX hbl hbA (i + 1) (by omega) (by omega) dL_law_303 ?_
    refine q_aload_n F 0 dL_law_304 rfl ?_
    refine q_iload_n F 3 dL_law_305 rfl ?_
    refine q_iconst F dL_law_306 (v := nI 2) (by decide) ?_
    refine q_iadd F dL_law_307 ?_
    refine q_toi (nI (i + 2)) (nI_add _ _) ?_
    refine q_sld F hX hbl hbA (i + 2) (by omega) (by omega) dL_law_308 ?_
    refine q_if_eq F (tgt := 316) dL_law_309 (by decide) (fun h => absurd h hb0) (fun _ => ?_)
    refine q_iconst F dL_law_312 (v := nI 1) (by decide) ?_
    refine q_goto F (tgt := 317) dL_law_313 (by decide) ?_
    obtain ⟨fs_, hm_⟩ := mC_mem E a f hh A9 tl
    refine q_callV F (ci := 11) (As := [.int (xs (i + 1)), .int (nI 1)]) (rest := [.int y]) (xW_tl hm_) rfl (p_shut hR hx) xW_pm gL_law_X11_shut rfl rfl rfl (by show yX11_shut.cls = RX11 ∧ yX11_shut.cls ≠ "java/lang/invoke/MethodHandle" ∧ yX11_shut.cls ≠ "java/lang/invoke/VarHandle" ∧ (parseMethodDescriptor yX11_shut.desc).map (fun d => d.parameters.length) = some 2; decide +kernel) ⟨Nat.le_of_ble_eq_true rfl, Nat.le_of_ble_eq_true rfl⟩ rfl (Nat.le_of_ble_eq_true rfl) dL_law_317 ⟨by show k + 0 ≤ 600000; omega, by show n + 0 ≤ 7302250; omega⟩ (fun v_ w_ hvw => ?_)
    obtain ⟨rfl, f', hh', A', rfl, hR'⟩ := hvw
    refine q_perm xW_pm.symm ?_
    refine q_at (pc' := 320) (st' := [.int y, .int y]) (ws' := xW E D S' (mC E a f' hh' A' ++ tl)) (k' := k) (n' := n) rfl rfl rfl rfl rfl ?_
    refine q_icmp_eq F (tgt := 726) dL_law_320 (by decide) (fun _ => ?_) (fun h => absurd rfl h)
    have hT : S'.1 = S.1 := tS_shut hx
    exact q_widen (by omega) (by omega) (nx S' f' hh' A' tl (hT ▸ hS) hR')
set_option maxHeartbeats 4000000 in
theorem lc_lay (F : gOK p s m #[Value.ref b] meth c cL_law 4 RL wsL_law E A) (hX : va_X b L xs s s.heap) (hbl : b < s.heap.size) (hbA : ¬ A b) (hL : L ≤ 2048) (hi : i + 4 ≤ L) (hS : isHs S.1 tl) (hR : Rel i S f A9) (hk : k ≤ 500000) (hn : n ≤ 7000000) (nx : ∀ (S' : gSt) (f' : gF) (hh' : Int64) (A' : gA) (tl' : va_W), isHs S'.1 tl' → Rel (i + 4) S' f' A' → gW p l e room_1 s m #[Value.ref b] below meth c E A 4 Q 726 [(0, .ref b), (1, .ref D.1), (2, .ref (a 32)), (3, .int (nI i))] [] (xW E D S' (mC E a f' hh' A' ++ tl')) (k + 6) (n + 18)) : gW p l e room_1 s m #[Value.ref b] below meth c E A 4 Q 325 [(0, .ref b), (1, .ref D.1), (2, .ref (a 32)), (3, .int (nI i))] [] (xW E D S (mC E a f hh A9 ++ tl)) k n := by
  refine q_aload_n F 1 dL_law_325 rfl ?_
  refine q_aload_n F 0 dL_law_326 rfl ?_
  refine q_iload_n F 3 dL_law_327 rfl ?_
  refine q_iconst F dL_law_328 (v := nI 1) (by decide) ?_
  refine q_iadd F dL_law_329 ?_
  refine q_toi (nI (i + 1)) (nI_add _ _) ?_
  refine q_sld F hX hbl hbA (i + 1) (by omega) (by omega) dL_law_330 ?_
  refine q_callV F (ci := 10) (As := [.int (xs (i + 1))]) (rest := []) (xW_mem E D S _) rfl (x_lay l E D S (mC E a f hh A9 ++ tl) (isHs.r _ hS) hR.1.1 hR.2.2.2.1.1 (xs (i + 1))) (List.Perm.refl _) gL_law_X10_lay rfl rfl rfl (by show yX10_lay.cls = RX10 ∧ yX10_lay.cls ≠ "java/lang/invoke/MethodHandle" ∧ yX10_lay.cls ≠ "java/lang/invoke/VarHandle" ∧ (parseMethodDescriptor yX10_lay.desc).map (fun d => d.parameters.length) = some 1; decide +kernel) ⟨Nat.le_of_ble_eq_true rfl, Nat.le_of_ble_eq_true rfl⟩ rfl (Nat.le_of_ble_eq_true rfl) dL_law_331 ⟨by show k + 0 ≤ 600000; omega, by show n + 0 ≤ 7302250; omega⟩ (fun v_ w_ hvw => ?_)
  obtain ⟨y, S', rfl, rfl, hx⟩ := hvw
  refine q_at (pc' := 334) (st' := [.int y]) (ws' := xW E D S' (mC E a f hh A9 ++ tl)) (k' := k) (n' := n) rfl rfl rfl rfl rfl ?_
  refine q_aload_n F 2 dL_law_334 rfl ?_
  refine q_aload_n F 0 dL_law_335 rfl ?_
  refine q_iload_n F 3 dL_law_336 rfl ?_
  refine q_iconst F dL_law_337 (v := nI 1) (by decide) ?_
  refine q_iadd F dL_law_338 ?_
  refine q_toi (nI (i + 1)) (nI_add _ _) ?_
  refine q_sld F hX hbl hbA (i + 1) (by omega) (by omega) dL_law_339 ?_
  obtain ⟨fs_, hm_⟩ := mC_mem E a f hh A9 tl
  refine q_callV F (ci := 11) (As := [.int (xs (i + 1))]) (rest := [.int y]) (xW_tl hm_) rfl (p_lay hR hx) xW_pm gL_law_X11_lay rfl rfl rfl (by show yX11_lay.cls = RX11 ∧ yX11_lay.cls ≠ "java/lang/invoke/MethodHandle" ∧ yX11_lay.cls ≠ "java/lang/invoke/VarHandle" ∧ (parseMethodDescriptor yX11_lay.desc).map (fun d => d.parameters.length) = some 1; decide +kernel) ⟨Nat.le_of_ble_eq_true rfl, Nat.le_of_ble_eq_true rfl⟩ rfl (Nat.le_of_ble_eq_true rfl) dL_law_340 ⟨by show k + 0 ≤ 600000; omega, by show n + 0 ≤ 7302250; omega⟩ (fun v_ w_ hvw => ?_)
  obtain ⟨rfl, f', hh', A', rfl, hR'⟩ := hvw
  refine q_perm xW_pm.symm ?_
  refine q_at (pc' := 343) (st' := [.int y, .int y]) (ws' := xW E D S' (mC E a f' hh' A' ++ tl)) (k' := k) (n' := n) rfl rfl rfl rfl rfl ?_
  refine q_icmp_eq F (tgt := 726) dL_law_343 (by decide) (fun _ => ?_) (fun h => absurd rfl h)
  have hT : S'.1 = S.1 := tS_lay hx
  exact q_widen (by omega) (by omega) (nx S' f' hh' A' tl (hT ▸ hS) hR')
set_option maxHeartbeats 4000000 in
theorem lc_pass (F : gOK p s m #[Value.ref b] meth c cL_law 4 RL wsL_law E A) (hX : va_X b L xs s s.heap) (hbl : b < s.heap.size) (hbA : ¬ A b) (hL : L ≤ 2048) (hi : i + 4 ≤ L) (hS : isHs S.1 tl) (hR : Rel i S f A9) (hk : k ≤ 500000) (hn : n ≤ 7000000) (nx : ∀ (S' : gSt) (f' : gF) (hh' : Int64) (A' : gA) (tl' : va_W), isHs S'.1 tl' → Rel (i + 4) S' f' A' → gW p l e room_1 s m #[Value.ref b] below meth c E A 4 Q 726 [(0, .ref b), (1, .ref D.1), (2, .ref (a 32)), (3, .int (nI i))] [] (xW E D S' (mC E a f' hh' A' ++ tl')) (k + 6) (n + 18)) : gW p l e room_1 s m #[Value.ref b] below meth c E A 4 Q 348 [(0, .ref b), (1, .ref D.1), (2, .ref (a 32)), (3, .int (nI i))] [] (xW E D S (mC E a f hh A9 ++ tl)) k n := by
  refine q_aload_n F 1 dL_law_348 rfl ?_
  refine q_aload_n F 0 dL_law_349 rfl ?_
  refine q_iload_n F 3 dL_law_350 rfl ?_
  refine q_iconst F dL_law_351 (v := nI 1) (by decide) ?_
  refine q_iadd F dL_law_352 ?_
  refine q_toi (nI (i + 1)) (nI_add _ _) ?_
  refine q_sld F hX hbl hbA (i + 1) (by omega) (by omega) dL_law_353 ?_
  refine q_callV F (ci := 10) (As := [.int (xs (i + 1))]) (rest := []) (xW_mem E D S _) rfl (x_pass l E D S (mC E a f hh A9 ++ tl) (isHs.r _ hS) hR.1.1 hR.2.2.2.1.1 (xs (i + 1))) (List.Perm.refl _) gL_law_X10_pass rfl rfl rfl (by show yX10_pass.cls = RX10 ∧ yX10_pass.cls ≠ "java/lang/invoke/MethodHandle" ∧ yX10_pass.cls ≠ "java/lang/invoke/VarHandle" ∧ (parseMethodDescriptor yX10_pass.desc).map (fun d => d.parameters.length) = some 1; decide +kernel) ⟨Nat.le_of_ble_eq_true rfl, Nat.le_of_ble_eq_true rfl⟩ rfl (Nat.le_of_ble_eq_true rfl) dL_law_354 ⟨by show k + 0 ≤ 600000; omega, by show n + 0 ≤ 7302250; omega⟩ (fun v_ w_ hvw => ?_)
  obtain ⟨y, S', rfl, rfl, hx⟩ := hvw
  refine q_at (pc' := 357) (st' := [.int y]) (ws' := xW E D S' (mC E a f hh A9 ++ tl)) (k' := k) (n' := n) rfl rfl rfl rfl rfl ?_
  refine q_aload_n F 2 dL_law_357 rfl ?_
  refine q_aload_n F 0 dL_law_358 rfl ?_
  refine q_iload_n F 3 dL_law_359 rfl ?_
  refine q_iconst F dL_law_360 (v := nI 1) (by decide) ?_
  refine q_iadd F dL_law_361 ?_
  refine q_toi (nI (i + 1)) (nI_add _ _) ?_
  refine q_sld F hX hbl hbA (i + 1) (by omega) (by omega) dL_law_362 ?_
  obtain ⟨fs_, hm_⟩ := mC_mem E a f hh A9 tl
  refine q_callV F (ci := 11) (As := [.int (xs (i + 1))]) (rest := [.int y]) (xW_tl hm_) rfl (p_pass (show i ≤ 2048 by omega) hR hx) xW_pm gL_law_X11_pass rfl rfl rfl (by show yX11_pass.cls = RX11 ∧ yX11_pass.cls ≠ "java/lang/invoke/MethodHandle" ∧ yX11_pass.cls ≠ "java/lang/invoke/VarHandle" ∧ (parseMethodDescriptor yX11_pass.desc).map (fun d => d.parameters.length) = some 1; decide +kernel) ⟨Nat.le_of_ble_eq_true rfl, Nat.le_of_ble_eq_true rfl⟩ rfl (Nat.le_of_ble_eq_true rfl) dL_law_363 ⟨by show k + 0 ≤ 600000; omega, by show n + 0 ≤ 7302250; omega⟩ (fun v_ w_ hvw => ?_)
  obtain ⟨rfl, f', hh', A', rfl, hR'⟩ := hvw
  refine q_perm xW_pm.symm ?_
  refine q_at (pc' := 366) (st' := [.int y, .int y]) (ws' := xW E D S' (mC E a f' hh' A' ++ tl)) (k' := k) (n' := n) rfl rfl rfl rfl rfl ?_
  refine q_icmp_eq F (tgt := 726) dL_law_366 (by decide) (fun _ => ?_) (fun h => absurd rfl h)
  have hT : S'.1 = S.1 := tS_pass hx
  exact q_widen (by omega) (by omega) (nx S' f' hh' A' tl (hT ▸ hS) hR')
set_option maxHeartbeats 4000000 in
theorem lc_open (F : gOK p s m #[Value.ref b] meth c cL_law 4 RL wsL_law E A) (hX : va_X b L xs s s.heap) (hbl : b < s.heap.size) (hbA : ¬ A b) (hL : L ≤ 2048) (hi : i + 4 ≤ L) (hS : isHs S.1 tl) (hR : Rel i S f A9) (hk : k ≤ 500000) (hn : n ≤ 7000000) (nx : ∀ (S' : gSt) (f' : gF) (hh' : Int64) (A' : gA) (tl' : va_W), isHs S'.1 tl' → Rel (i + 4) S' f' A' → gW p l e room_1 s m #[Value.ref b] below meth c E A 4 Q 726 [(0, .ref b), (1, .ref D.1), (2, .ref (a 32)), (3, .int (nI i))] [] (xW E D S' (mC E a f' hh' A' ++ tl')) (k + 6) (n + 18)) : gW p l e room_1 s m #[Value.ref b] below meth c E A 4 Q 371 [(0, .ref b), (1, .ref D.1), (2, .ref (a 32)), (3, .int (nI i))] [] (xW E D S (mC E a f hh A9 ++ tl)) k n := by
  refine q_aload_n F 1 dL_law_371 rfl ?_
  refine q_aload_n F 0 dL_law_372 rfl ?_
  refine q_iload_n F 3 dL_law_373 rfl ?_
  refine q_iconst F dL_law_374 (v := nI 1) (by decide) ?_
  refine q_iadd F dL_law_375 ?_
  refine q_toi (nI (i + 1)) (nI_add _ _) ?_
  refine q_sld F hX hbl hbA (i + 1) (by omega) (by omega) dL_law_376 ?_
  refine q_callV F (ci := 10) (As := [.int (xs (i + 1))]) (rest := []) (xW_mem E D S _) rfl (x_open l E D S (mC E a f hh A9 ++ tl) (isHs.r _ hS) hR.1.1 hR.2.2.2.1.1 (xs (i + 1))) (List.Perm.refl _) gL_law_X10_open rfl rfl rfl (by show yX10_open.cls = RX10 ∧ yX10_open.cls ≠ "java/lang/invoke/MethodHandle" ∧ yX10_open.cls ≠ "java/lang/invoke/VarHandle" ∧ (parseMethodDescriptor yX10_open.desc).map (fun d => d.parameters.length) = some 1; decide +kernel) ⟨Nat.le_of_ble_eq_true rfl, Nat.le_of_ble_eq_true rfl⟩ rfl (Nat.le_of_ble_eq_true rfl) dL_law_377 ⟨by show k + 0 ≤ 600000; omega, by show n + 0 ≤ 7302250; omega⟩ (fun v_ w_ hvw => ?_)
  obtain ⟨y, S', rfl, rfl, hx⟩ := hvw
  refine q_at (pc' := 380) (st' := [.int y]) (ws' := xW E D S' (mC E a f hh A9 ++ tl)) (k' := k) (n' := n) rfl rfl rfl rfl rfl ?_
  refine q_aload_n F 2 dL_law_380 rfl ?_
  refine q_aload_n F 0 dL_law_381 rfl ?_
  refine q_iload_n F 3 dL_law_382 rfl ?_
  refine q_iconst F dL_law_383 (v := nI 1) (by decide) ?_
  refine q_iadd F dL_law_384 ?_
  refine q_toi (nI (i + 1)) (nI_add _ _) ?_
  refine q_sld F hX hbl hbA (i + 1) (by omega) (by omega) dL_law_385 ?_
  obtain ⟨fs_, hm_⟩ := mC_mem E a f hh A9 tl
  refine q_callV F (ci := 11) (As := [.int (xs (i + 1))]) (rest := [.int y]) (xW_tl hm_) rfl (p_open (show i ≤ 2048 by omega) hR hx) xW_pm gL_law_X11_open rfl rfl rfl (by show yX11_open.cls = RX11 ∧ yX11_open.cls ≠ "java/lang/invoke/MethodHandle" ∧ yX11_open.cls ≠ "java/lang/invoke/VarHandle" ∧ (parseMethodDescriptor yX11_open.desc).map (fun d => d.parameters.length) = some 1; decide +kernel) ⟨Nat.le_of_ble_eq_true rfl, Nat.le_of_ble_eq_true rfl⟩ rfl (Nat.le_of_ble_eq_true rfl) dL_law_386 ⟨by show k + 0 ≤ 600000; omega, by show n + 0 ≤ 7302250; omega⟩ (fun v_ w_ hvw => ?_)
  obtain ⟨rfl, f', hh', A', rfl, hR'⟩ := hvw
  refine q_perm xW_pm.symm ?_
  refine q_at (pc' := 389) (st' := [.int y, .int y]) (ws' := xW E D S' (mC E a f' hh' A' ++ tl)) (k' := k) (n' := n) rfl rfl rfl rfl rfl ?_
  refine q_icmp_eq F (tgt := 726) dL_law_389 (by decide) (fun _ => ?_) (fun h => absurd rfl h)
  have hT : S'.1 = S.1 := tS_open hx
  exact q_widen (by omega) (by omega) (nx S' f' hh' A' tl (hT ▸ hS) hR')
set_option maxHeartbeats 4000000 in
theorem lc_night (F : gOK p s m #[Value.ref b] meth c cL_law 4 RL wsL_law E A) (hX : va_X b L xs s s.heap) (hbl : b < s.heap.size) (hbA : ¬ A b) (hL : L ≤ 2048) (hi : i + 4 ≤ L) (hS : isHs S.1 tl) (hR : Rel i S f A9) (hk : k ≤ 500000) (hn : n ≤ 7000000) (nx : ∀ (S' : gSt) (f' : gF) (hh' : Int64) (A' : gA) (tl' : va_W), isHs S'.1 tl' → Rel (i + 4) S' f' A' → gW p l e room_1 s m #[Value.ref b] below meth c E A 4 Q 726 [(0, .ref b), (1, .ref D.1), (2, .ref (a 32)), (3, .int (nI i))] [] (xW E D S' (mC E a f' hh' A' ++ tl')) (k + 6) (n + 18)) : gW p l e room_1 s m #[Value.ref b] below meth c E A 4 Q 394 [(0, .ref b), (1, .ref D.1), (2, .ref (a 32)), (3, .int (nI i))] [] (xW E D S (mC E a f hh A9 ++ tl)) k n := by
  refine q_aload_n F 1 dL_law_394 rfl ?_
  refine q_callV F (ci := 10) (As := []) (rest := []) (xW_mem E D S _) rfl (x_night l E D S (mC E a f hh A9 ++ tl) (isHs.r _ hS) hR.1.1 hR.2.2.2.1.1 ) (List.Perm.refl _) gL_law_X10_night rfl rfl rfl (by show yX10_night.cls = RX10 ∧ yX10_night.cls ≠ "java/lang/invoke/MethodHandle" ∧ yX10_night.cls ≠ "java/lang/invoke/VarHandle" ∧ (parseMethodDescriptor yX10_night.desc).map (fun d => d.parameters.length) = some 0; decide +kernel) ⟨Nat.le_of_ble_eq_true rfl, Nat.le_of_ble_eq_true rfl⟩ rfl (Nat.le_of_ble_eq_true rfl) dL_law_395 ⟨by show k + 0 ≤ 600000; omega, by show n + 0 ≤ 7302250; omega⟩ (fun v_ w_ hvw => ?_)
  obtain ⟨y, S', rfl, rfl, hx⟩ := hvw
  refine q_at (pc' := 398) (st' := [.int y]) (ws' := xW E D S' (mC E a f hh A9 ++ tl)) (k' := k) (n' := n) rfl rfl rfl rfl rfl ?_
  refine q_aload_n F 2 dL_law_398 rfl ?_
  obtain ⟨fs_, hm_⟩ := mC_mem E a f hh A9 tl
  refine q_callV F (ci := 11) (As := []) (rest := [.int y]) (xW_tl hm_) rfl (p_night hR hx) xW_pm gL_law_X11_night rfl rfl rfl (by show yX11_night.cls = RX11 ∧ yX11_night.cls ≠ "java/lang/invoke/MethodHandle" ∧ yX11_night.cls ≠ "java/lang/invoke/VarHandle" ∧ (parseMethodDescriptor yX11_night.desc).map (fun d => d.parameters.length) = some 0; decide +kernel) ⟨Nat.le_of_ble_eq_true rfl, Nat.le_of_ble_eq_true rfl⟩ rfl (Nat.le_of_ble_eq_true rfl) dL_law_399 ⟨by show k + 0 ≤ 600000; omega, by show n + 0 ≤ 7302250; omega⟩ (fun v_ w_ hvw => ?_)
  obtain ⟨rfl, f', hh', A', rfl, hR'⟩ := hvw
  refine q_perm xW_pm.symm ?_
  refine q_at (pc' := 402) (st' := [.int y, .int y]) (ws' := xW E D S' (mC E a f' hh' A' ++ tl)) (k' := k) (n' := n) rfl rfl rfl rfl rfl ?_
  refine q_icmp_eq F (tgt := 726) dL_law_402 (by decide) (fun _ => ?_) (fun h => absurd rfl h)
  have hT : S'.1 = S.1 := tS_night hx
  exact q_widen (by omega) (by omega) (nx S' f' hh' A' tl (hT ▸ hS) hR')
set_option maxHeartbeats 4000000 in
theorem lc_next (F : gOK p s m #[Value.ref b] meth c cL_law 4 RL wsL_law E A) (hX : va_X b L xs s s.heap) (hbl : b < s.heap.size) (hbA : ¬ A b) (hL : L ≤ 2048) (hi : i + 4 ≤ L) (hS : isHs S.1 tl) (hR : Rel i S f A9) (hk : k ≤ 500000) (hn : n ≤ 7000000) (nx : ∀ (S' : gSt) (f' : gF) (hh' : Int64) (A' : gA) (tl' : va_W), isHs S'.1 tl' → Rel (i + 4) S' f' A' → gW p l e room_1 s m #[Value.ref b] below meth c E A 4 Q 726 [(0, .ref b), (1, .ref D.1), (2, .ref (a 32)), (3, .int (nI i))] [] (xW E D S' (mC E a f' hh' A' ++ tl')) (k + 6) (n + 18)) : gW p l e room_1 s m #[Value.ref b] below meth c E A 4 Q 407 [(0, .ref b), (1, .ref D.1), (2, .ref (a 32)), (3, .int (nI i))] [] (xW E D S (mC E a f hh A9 ++ tl)) k n := by
  refine q_aload_n F 1 dL_law_407 rfl ?_
  refine q_aload_n F 0 dL_law_408 rfl ?_
  refine q_iload_n F 3 dL_law_409 rfl ?_
  refine q_iconst F dL_law_410 (v := nI 1) (by decide) ?_
  refine q_iadd F dL_law_411 ?_
  refine q_toi (nI (i + 1)) (nI_add _ _) ?_
  refine q_sld F hX hbl hbA (i + 1) (by omega) (by omega) dL_law_412 ?_
  refine q_callV F (ci := 10) (As := [.int (xs (i + 1))]) (rest := []) (xW_mem E D S _) rfl (x_next l E D S (mC E a f hh A9 ++ tl) (isHs.r _ hS) hR.1.1 hR.2.2.2.1.1 (xs (i + 1))) (List.Perm.refl _) gL_law_X10_next rfl rfl rfl (by show yX10_next.cls = RX10 ∧ yX10_next.cls ≠ "java/lang/invoke/MethodHandle" ∧ yX10_next.cls ≠ "java/lang/invoke/VarHandle" ∧ (parseMethodDescriptor yX10_next.desc).map (fun d => d.parameters.length) = some 1; decide +kernel) ⟨Nat.le_of_ble_eq_true rfl, Nat.le_of_ble_eq_true rfl⟩ rfl (Nat.le_of_ble_eq_true rfl) dL_law_413 ⟨by show k + 0 ≤ 600000; omega, by show n + 0 ≤ 7302250; omega⟩ (fun v_ w_ hvw => ?_)
  obtain ⟨y, S', rfl, rfl, hx⟩ := hvw
  refine q_at (pc' := 416) (st' := [.int y]) (ws' := xW E D S' (mC E a f hh A9 ++ tl)) (k' := k) (n' := n) rfl rfl rfl rfl rfl ?_
  refine q_aload_n F 2 dL_law_416 rfl ?_
  refine q_aload_n F 0 dL_law_417 rfl ?_
  refine q_iload_n F 3 dL_law_418 rfl ?_
  refine q_iconst F dL_law_419 (v := nI 1) (by decide) ?_
  refine q_iadd F dL_law_420 ?_
  refine q_toi (nI (i + 1)) (nI_add _ _) ?_
  refine q_sld F hX hbl hbA (i + 1) (by omega) (by omega) dL_law_421 ?_
  obtain ⟨fs_, hm_⟩ := mC_mem E a f hh A9 tl
  refine q_callV F (ci := 11) (As := [.int (xs (i + 1))]) (rest := [.int y]) (xW_tl hm_) rfl (p_next (show i ≤ 2048 by omega) hR hx) xW_pm gL_law_X11_next rfl rfl rfl (by show yX11_next.cls = RX11 ∧ yX11_next.cls ≠ "java/lang/invoke/MethodHandle" ∧ yX11_next.cls ≠ "java/lang/invoke/VarHandle" ∧ (parseMethodDescriptor yX11_next.desc).map (fun d => d.parameters.length) = some 1; decide +kernel) ⟨Nat.le_of_ble_eq_true rfl, Nat.le_of_ble_eq_true rfl⟩ rfl (Nat.le_of_ble_eq_true rfl) dL_law_422 ⟨by show k + 0 ≤ 600000; omega, by show n + 0 ≤ 7302250; omega⟩ (fun v_ w_ hvw => ?_)
  obtain ⟨rfl, f', hh', A', rfl, hR'⟩ := hvw
  refine q_perm xW_pm.symm ?_
  refine q_at (pc' := 425) (st' := [.int y, .int y]) (ws' := xW E D S' (mC E a f' hh' A' ++ tl)) (k' := k) (n' := n) rfl rfl rfl rfl rfl ?_
  refine q_icmp_eq F (tgt := 726) dL_law_425 (by decide) (fun _ => ?_) (fun h => absurd rfl h)
  have hT : S'.1 = S.1 := tS_next hx
  exact q_widen (by omega) (by omega) (nx S' f' hh' A' tl (hT ▸ hS) hR')
set_option maxHeartbeats 4000000 in
theorem lc_by (F : gOK p s m #[Value.ref b] meth c cL_law 4 RL wsL_law E A) (hX : va_X b L xs s s.heap) (hbl : b < s.heap.size) (hbA : ¬ A b) (hL : L ≤ 2048) (hi : i + 4 ≤ L) (hS : isHs S.1 tl) (hR : Rel i S f A9) (hk : k ≤ 500000) (hn : n ≤ 7000000) (nx : ∀ (S' : gSt) (f' : gF) (hh' : Int64) (A' : gA) (tl' : va_W), isHs S'.1 tl' → Rel (i + 4) S' f' A' → gW p l e room_1 s m #[Value.ref b] below meth c E A 4 Q 726 [(0, .ref b), (1, .ref D.1), (2, .ref (a 32)), (3, .int (nI i))] [] (xW E D S' (mC E a f' hh' A' ++ tl')) (k + 6) (n + 18)) : gW p l e room_1 s m #[Value.ref b] below meth c E A 4 Q 430 [(0, .ref b), (1, .ref D.1), (2, .ref (a 32)), (3, .int (nI i))] [] (xW E D S (mC E a f hh A9 ++ tl)) k n := by
  refine q_aload_n F 1 dL_law_430 rfl ?_
  refine q_aload_n F 0 dL_law_431 rfl ?_
  refine q_iload_n F 3 dL_law_432 rfl ?_
  refine q_iconst F dL_law_433 (v := nI 1) (by decide) ?_
  refine q_iadd F dL_law_434 ?_
  refine q_toi (nI (i + 1)) (nI_add _ _) ?_
  refine q_sld F hX hbl hbA (i + 1) (by omega) (by omega) dL_law_435 ?_
  refine q_aload_n F 0 dL_law_436 rfl ?_
  refine q_iload_n F 3 dL_law_437 rfl ?_
  refine q_iconst F dL_law_438 (v := nI 2) (by decide) ?_
  refine q_iadd F dL_law_439 ?_
  refine q_toi (nI (i + 2)) (nI_add _ _) ?_
  refine q_sld F hX hbl hbA (i + 2) (by omega) (by omega) dL_law_440 ?_
  refine q_callV F (ci := 10) (As := [.int (xs (i + 1)), .int (xs (i + 2))]) (rest := []) (xW_mem E D S _) rfl (x_by l E D S (mC E a f hh A9 ++ tl) (isHs.r _ hS) hR.1.1 hR.2.2.2.1.1 (xs (i + 1)) (xs (i + 2)) hR.2.2.2.2.1.2.2.2.2.2.2.2.2.2) (List.Perm.refl _) gL_law_X10_by rfl rfl rfl (by show yX10_by.cls = RX10 ∧ yX10_by.cls ≠ "java/lang/invoke/MethodHandle" ∧ yX10_by.cls ≠ "java/lang/invoke/VarHandle" ∧ (parseMethodDescriptor yX10_by.desc).map (fun d => d.parameters.length) = some 2; decide +kernel) ⟨Nat.le_of_ble_eq_true rfl, Nat.le_of_ble_eq_true rfl⟩ rfl (Nat.le_of_ble_eq_true rfl) dL_law_441 ⟨by show k + 0 ≤ 600000; omega, by show n + 0 ≤ 7302250; omega⟩ (fun v_ w_ hvw => ?_)
  obtain ⟨y, S', rfl, rfl, hx⟩ := hvw
  refine q_at (pc' := 444) (st' := [.int y]) (ws' := xW E D S' (mC E a f hh A9 ++ tl)) (k' := k) (n' := n) rfl rfl rfl rfl rfl ?_
  refine q_aload_n F 2 dL_law_444 rfl ?_
  refine q_aload_n F 0 dL_law_445 rfl ?_
  refine q_iload_n F 3 dL_law_446 rfl ?_
  refine q_iconst F dL_law_447 (v := nI 1) (by decide) ?_
  refine q_iadd F dL_law_448 ?_
  refine q_toi (nI (i + 1)) (nI_add _ _) ?_
  refine q_sld F hX hbl hbA (i + 1) (by omega) (by omega) dL_law_449 ?_
  refine q_aload_n F 0 dL_law_450 rfl ?_
  refine q_iload_n F 3 dL_law_451 rfl ?_
  refine q_iconst F dL_law_452 (v := nI 2) (by decide) ?_
  refine q_iadd F dL_law_453 ?_
  refine q_toi (nI (i + 2)) (nI_add _ _) ?_
  refine q_sld F hX hbl hbA (i + 2) (by omega) (by omega) dL_law_454 ?_
  obtain ⟨fs_, hm_⟩ := mC_mem E a f hh A9 tl
  refine q_callV F (ci := 11) (As := [.int (xs (i + 1)), .int (xs (i + 2))]) (rest := [.int y]) (xW_tl hm_) rfl (p_by (show i ≤ 2048 by omega) hR hx) xW_pm gL_law_X11_by rfl rfl rfl (by show yX11_by.cls = RX11 ∧ yX11_by.cls ≠ "java/lang/invoke/MethodHandle" ∧ yX11_by.cls ≠ "java/lang/invoke/VarHandle" ∧ (parseMethodDescriptor yX11_by.desc).map (fun d => d.parameters.length) = some 2; decide +kernel) ⟨Nat.le_of_ble_eq_true rfl, Nat.le_of_ble_eq_true rfl⟩ rfl (Nat.le_of_ble_eq_true rfl) dL_law_455 ⟨by show k + 0 ≤ 600000; omega, by show n + 0 ≤ 7302250; omega⟩ (fun v_ w_ hvw => ?_)
  obtain ⟨rfl, f', hh', A', rfl, hR'⟩ := hvw
  refine q_perm xW_pm.symm ?_
  refine q_at (pc' := 458) (st' := [.int y, .int y]) (ws' := xW E D S' (mC E a f' hh' A' ++ tl)) (k' := k) (n' := n) rfl rfl rfl rfl rfl ?_
  refine q_icmp_eq F (tgt := 726) dL_law_458 (by decide) (fun _ => ?_) (fun h => absurd rfl h)
  have hT : S'.1 = S.1 := tS_by hx
  exact q_widen (by omega) (by omega) (nx S' f' hh' A' tl (hT ▸ hS) hR')
set_option maxHeartbeats 4000000 in
theorem lc_best (F : gOK p s m #[Value.ref b] meth c cL_law 4 RL wsL_law E A) (hX : va_X b L xs s s.heap) (hbl : b < s.heap.size) (hbA : ¬ A b) (hL : L ≤ 2048) (hi : i + 4 ≤ L) (hS : isHs S.1 tl) (hR : Rel i S f A9) (hk : k ≤ 500000) (hn : n ≤ 7000000) (nx : ∀ (S' : gSt) (f' : gF) (hh' : Int64) (A' : gA) (tl' : va_W), isHs S'.1 tl' → Rel (i + 4) S' f' A' → gW p l e room_1 s m #[Value.ref b] below meth c E A 4 Q 726 [(0, .ref b), (1, .ref D.1), (2, .ref (a 32)), (3, .int (nI i))] [] (xW E D S' (mC E a f' hh' A' ++ tl')) (k + 6) (n + 18)) : gW p l e room_1 s m #[Value.ref b] below meth c E A 4 Q 463 [(0, .ref b), (1, .ref D.1), (2, .ref (a 32)), (3, .int (nI i))] [] (xW E D S (mC E a f hh A9 ++ tl)) k n := by
  refine q_aload_n F 1 dL_law_463 rfl ?_
  refine q_aload_n F 0 dL_law_464 rfl ?_
  refine q_iload_n F 3 dL_law_465 rfl ?_
  refine q_iconst F dL_law_466 (v := nI 1) (by decide) ?_
  refine q_iadd F dL_law_467 ?_
  refine q_toi (nI (i + 1)) (nI_add _ _) ?_
  refine q_sld F hX hbl hbA (i + 1) (by omega) (by omega) dL_law_468 ?_
  refine q_callV F (ci := 10) (As := [.int (xs (i + 1))]) (rest := []) (xW_mem E D S _) rfl (x_best l E D S (mC E a f hh A9 ++ tl) (isHs.r _ hS) hR.1.1 hR.2.2.2.1.1 (xs (i + 1)) hR.2.2.2.2.1.okN) (List.Perm.refl _) gL_law_X10_best rfl rfl rfl (by show yX10_best.cls = RX10 ∧ yX10_best.cls ≠ "java/lang/invoke/MethodHandle" ∧ yX10_best.cls ≠ "java/lang/invoke/VarHandle" ∧ (parseMethodDescriptor yX10_best.desc).map (fun d => d.parameters.length) = some 1; decide +kernel) ⟨Nat.le_of_ble_eq_true rfl, Nat.le_of_ble_eq_true rfl⟩ rfl (Nat.le_of_ble_eq_true rfl) dL_law_469 ⟨by show k + 0 ≤ 600000; omega, by show n + 0 ≤ 7302250; omega⟩ (fun v_ w_ hvw => ?_)
  obtain ⟨y, S', rfl, rfl, hx⟩ := hvw
  refine q_at (pc' := 472) (st' := [.int y]) (ws' := xW E D S' (mC E a f hh A9 ++ tl)) (k' := k) (n' := n) rfl rfl rfl rfl rfl ?_
  refine q_aload_n F 2 dL_law_472 rfl ?_
  refine q_aload_n F 0 dL_law_473 rfl ?_
  refine q_iload_n F 3 dL_law_474 rfl ?_
  refine q_iconst F dL_law_475 (v := nI 1) (by decide) ?_
  refine q_iadd F dL_law_476 ?_
  refine q_toi (nI (i + 1)) (nI_add _ _) ?_
  refine q_sld F hX hbl hbA (i + 1) (by omega) (by omega) dL_law_477 ?_
  obtain ⟨fs_, hm_⟩ := mC_mem E a f hh A9 tl
  refine q_callV F (ci := 11) (As := [.int (xs (i + 1))]) (rest := [.int y]) (xW_tl hm_) rfl (p_best (show i ≤ 2048 by omega) hR hx) xW_pm gL_law_X11_best rfl rfl rfl (by show yX11_best.cls = RX11 ∧ yX11_best.cls ≠ "java/lang/invoke/MethodHandle" ∧ yX11_best.cls ≠ "java/lang/invoke/VarHandle" ∧ (parseMethodDescriptor yX11_best.desc).map (fun d => d.parameters.length) = some 1; decide +kernel) ⟨Nat.le_of_ble_eq_true rfl, Nat.le_of_ble_eq_true rfl⟩ rfl (Nat.le_of_ble_eq_true rfl) dL_law_478 ⟨by show k + 0 ≤ 600000; omega, by show n + 0 ≤ 7302250; omega⟩ (fun v_ w_ hvw => ?_)
  obtain ⟨rfl, f', hh', A', rfl, hR'⟩ := hvw
  refine q_perm xW_pm.symm ?_
  refine q_at (pc' := 481) (st' := [.int y, .int y]) (ws' := xW E D S' (mC E a f' hh' A' ++ tl)) (k' := k) (n' := n) rfl rfl rfl rfl rfl ?_
  refine q_icmp_eq F (tgt := 726) dL_law_481 (by decide) (fun _ => ?_) (fun h => absurd rfl h)
  have hT : S'.1 = S.1 := tS_best hx
  exact q_widen (by omega) (by omega) (nx S' f' hh' A' tl (hT ▸ hS) hR')
set_option maxHeartbeats 4000000 in
theorem lc_shortest (F : gOK p s m #[Value.ref b] meth c cL_law 4 RL wsL_law E A) (hX : va_X b L xs s s.heap) (hbl : b < s.heap.size) (hbA : ¬ A b) (hL : L ≤ 2048) (hi : i + 4 ≤ L) (hS : isHs S.1 tl) (hR : Rel i S f A9) (hk : k ≤ 500000) (hn : n ≤ 7000000) (nx : ∀ (S' : gSt) (f' : gF) (hh' : Int64) (A' : gA) (tl' : va_W), isHs S'.1 tl' → Rel (i + 4) S' f' A' → gW p l e room_1 s m #[Value.ref b] below meth c E A 4 Q 726 [(0, .ref b), (1, .ref D.1), (2, .ref (a 32)), (3, .int (nI i))] [] (xW E D S' (mC E a f' hh' A' ++ tl')) (k + 6) (n + 18)) : gW p l e room_1 s m #[Value.ref b] below meth c E A 4 Q 486 [(0, .ref b), (1, .ref D.1), (2, .ref (a 32)), (3, .int (nI i))] [] (xW E D S (mC E a f hh A9 ++ tl)) k n := by
  refine q_aload_n F 1 dL_law_486 rfl ?_
  refine q_callV F (ci := 10) (As := []) (rest := []) (xW_mem E D S _) rfl (x_shortest l E D S (mC E a f hh A9 ++ tl) (isHs.r _ hS) hR.1.1 hR.2.2.2.1.1 hR.2.2.2.2.1.okN) (List.Perm.refl _) gL_law_X10_shortest rfl rfl rfl (by show yX10_shortest.cls = RX10 ∧ yX10_shortest.cls ≠ "java/lang/invoke/MethodHandle" ∧ yX10_shortest.cls ≠ "java/lang/invoke/VarHandle" ∧ (parseMethodDescriptor yX10_shortest.desc).map (fun d => d.parameters.length) = some 0; decide +kernel) ⟨Nat.le_of_ble_eq_true rfl, Nat.le_of_ble_eq_true rfl⟩ rfl (Nat.le_of_ble_eq_true rfl) dL_law_487 ⟨by show k + 0 ≤ 600000; omega, by show n + 0 ≤ 7302250; omega⟩ (fun v_ w_ hvw => ?_)
  obtain ⟨y, S', rfl, rfl, hx⟩ := hvw
  refine q_at (pc' := 490) (st' := [.int y]) (ws' := xW E D S' (mC E a f hh A9 ++ tl)) (k' := k) (n' := n) rfl rfl rfl rfl rfl ?_
  refine q_aload_n F 2 dL_law_490 rfl ?_
  obtain ⟨fs_, hm_⟩ := mC_mem E a f hh A9 tl
  refine q_callV F (ci := 11) (As := []) (rest := [.int y]) (xW_tl hm_) rfl (p_shortest (show i ≤ 2048 by omega) hR hx) xW_pm gL_law_X11_shortest rfl rfl rfl (by show yX11_shortest.cls = RX11 ∧ yX11_shortest.cls ≠ "java/lang/invoke/MethodHandle" ∧ yX11_shortest.cls ≠ "java/lang/invoke/VarHandle" ∧ (parseMethodDescriptor yX11_shortest.desc).map (fun d => d.parameters.length) = some 0; decide +kernel) ⟨Nat.le_of_ble_eq_true rfl, Nat.le_of_ble_eq_true rfl⟩ rfl (Nat.le_of_ble_eq_true rfl) dL_law_491 ⟨by show k + 0 ≤ 600000; omega, by show n + 0 ≤ 7302250; omega⟩ (fun v_ w_ hvw => ?_)
  obtain ⟨rfl, f', hh', A', rfl, hR'⟩ := hvw
  refine q_perm xW_pm.symm ?_
  refine q_at (pc' := 494) (st' := [.int y, .int y]) (ws' := xW E D S' (mC E a f' hh' A' ++ tl)) (k' := k) (n' := n) rfl rfl rfl rfl rfl ?_
  refine q_icmp_eq F (tgt := 726) dL_law_494 (by decide) (fun _ => ?_) (fun h => absurd rfl h)
  have hT : S'.1 = S.1 := tS_shortest hx
  exact q_widen (by omega) (by omega) (nx S' f' hh' A' tl (hT ▸ hS) hR')
set_option maxHeartbeats 4000000 in
theorem lc_hang (F : gOK p s m #[Value.ref b] meth c cL_law 4 RL wsL_law E A) (hX : va_X b L xs s s.heap) (hbl : b < s.heap.size) (hbA : ¬ A b) (hL : L ≤ 2048) (hi : i + 4 ≤ L) (hS : isHs S.1 tl) (hR : Rel i S f A9) (hk : k ≤ 500000) (hn : n ≤ 7000000) (nx : ∀ (S' : gSt) (f' : gF) (hh' : Int64) (A' : gA) (tl' : va_W), isHs S'.1 tl' → Rel (i + 4) S' f' A' → gW p l e room_1 s m #[Value.ref b] below meth c E A 4 Q 726 [(0, .ref b), (1, .ref D.1), (2, .ref (a 32)), (3, .int (nI i))] [] (xW E D S' (mC E a f' hh' A' ++ tl')) (k + 6) (n + 18)) : gW p l e room_1 s m #[Value.ref b] below meth c E A 4 Q 499 [(0, .ref b), (1, .ref D.1), (2, .ref (a 32)), (3, .int (nI i))] [] (xW E D S (mC E a f hh A9 ++ tl)) k n := by
  obtain ⟨hc, h30, h8, -⟩ := hR.2.2.2.2.2.2
  refine q_aload_n F 1 dL_law_499 rfl ?_
  refine q_callV F (ci := 10) (As := []) (rest := []) (xW_mem E D S _) rfl (x_hang l E D S (mC E a f hh A9 ++ tl) (isHs.r _ hS) hR.1.1 hR.2.2.2.1.1 hc hR.2.2.2.2.1.okN h8 h30) (List.Perm.refl _) gL_law_X10_hang rfl rfl rfl (by show yX10_hang.cls = RX10 ∧ yX10_hang.cls ≠ "java/lang/invoke/MethodHandle" ∧ yX10_hang.cls ≠ "java/lang/invoke/VarHandle" ∧ (parseMethodDescriptor yX10_hang.desc).map (fun d => d.parameters.length) = some 0; decide +kernel) ⟨Nat.le_of_ble_eq_true rfl, Nat.le_of_ble_eq_true rfl⟩ rfl (Nat.le_of_ble_eq_true rfl) dL_law_500 ⟨by show k + 0 ≤ 600000; omega, by show n + 0 ≤ 7302250; omega⟩ (fun v_ w_ hvw => ?_)
  obtain ⟨y, S', rfl, rfl, hx⟩ := hvw
  refine q_at (pc' := 503) (st' := [.int y]) (ws' := xW E D S' (mC E a f hh A9 ++ tl)) (k' := k) (n' := n) rfl rfl rfl rfl rfl ?_
  refine q_aload_n F 2 dL_law_503 rfl ?_
  obtain ⟨fs_, hm_⟩ := mC_mem E a f hh A9 tl
  refine q_callV F (ci := 11) (As := []) (rest := [.int y]) (xW_tl hm_) rfl (p_hang (show i ≤ 2048 by omega) hR h8 h30 hx) xW_pm gL_law_X11_hang rfl rfl rfl (by show yX11_hang.cls = RX11 ∧ yX11_hang.cls ≠ "java/lang/invoke/MethodHandle" ∧ yX11_hang.cls ≠ "java/lang/invoke/VarHandle" ∧ (parseMethodDescriptor yX11_hang.desc).map (fun d => d.parameters.length) = some 0; decide +kernel) ⟨Nat.le_of_ble_eq_true rfl, Nat.le_of_ble_eq_true rfl⟩ rfl (Nat.le_of_ble_eq_true rfl) dL_law_504 ⟨by show k + 0 ≤ 600000; omega, by show n + 0 ≤ 7302250; omega⟩ (fun v_ w_ hvw => ?_)
  obtain ⟨rfl, f', hh', A', rfl, hR'⟩ := hvw
  refine q_perm xW_pm.symm ?_
  refine q_at (pc' := 507) (st' := [.int y, .int y]) (ws' := xW E D S' (mC E a f' hh' A' ++ tl)) (k' := k) (n' := n) rfl rfl rfl rfl rfl ?_
  refine q_icmp_eq F (tgt := 726) dL_law_507 (by decide) (fun _ => ?_) (fun h => absurd rfl h)
  have hT : S'.1 = S.1 := tS_hang hx
  exact q_widen (by omega) (by omega) (nx S' f' hh' A' tl (hT ▸ hS) hR')
set_option maxHeartbeats 4000000 in
theorem lc_twoKeys (F : gOK p s m #[Value.ref b] meth c cL_law 4 RL wsL_law E A) (hX : va_X b L xs s s.heap) (hbl : b < s.heap.size) (hbA : ¬ A b) (hL : L ≤ 2048) (hi : i + 4 ≤ L) (hS : isHs S.1 tl) (hR : Rel i S f A9) (hk : k ≤ 500000) (hn : n ≤ 7000000) (nx : ∀ (S' : gSt) (f' : gF) (hh' : Int64) (A' : gA) (tl' : va_W), isHs S'.1 tl' → Rel (i + 4) S' f' A' → gW p l e room_1 s m #[Value.ref b] below meth c E A 4 Q 726 [(0, .ref b), (1, .ref D.1), (2, .ref (a 32)), (3, .int (nI i))] [] (xW E D S' (mC E a f' hh' A' ++ tl')) (k + 6) (n + 18)) : gW p l e room_1 s m #[Value.ref b] below meth c E A 4 Q 512 [(0, .ref b), (1, .ref D.1), (2, .ref (a 32)), (3, .int (nI i))] [] (xW E D S (mC E a f hh A9 ++ tl)) k n := by
  refine q_aload_n F 1 dL_law_512 rfl ?_
  refine q_callV F (ci := 10) (As := []) (rest := []) (xW_mem E D S _) rfl (x_twoKeys l E D S (mC E a f hh A9 ++ tl) (isHs.r _ hS) hR.1.1 hR.2.2.2.1.1 hR.2.2.2.2.1.okN) (List.Perm.refl _) gL_law_X10_twoKeys rfl rfl rfl (by show yX10_twoKeys.cls = RX10 ∧ yX10_twoKeys.cls ≠ "java/lang/invoke/MethodHandle" ∧ yX10_twoKeys.cls ≠ "java/lang/invoke/VarHandle" ∧ (parseMethodDescriptor yX10_twoKeys.desc).map (fun d => d.parameters.length) = some 0; decide +kernel) ⟨Nat.le_of_ble_eq_true rfl, Nat.le_of_ble_eq_true rfl⟩ rfl (Nat.le_of_ble_eq_true rfl) dL_law_513 ⟨by show k + 0 ≤ 600000; omega, by show n + 0 ≤ 7302250; omega⟩ (fun v_ w_ hvw => ?_)
  obtain ⟨y, S', rfl, rfl, hx⟩ := hvw
  refine q_at (pc' := 516) (st' := [.int y]) (ws' := xW E D S' (mC E a f hh A9 ++ tl)) (k' := k) (n' := n) rfl rfl rfl rfl rfl ?_
  refine q_aload_n F 2 dL_law_516 rfl ?_
  obtain ⟨fs_, hm_⟩ := mC_mem E a f hh A9 tl
  refine q_callV F (ci := 11) (As := []) (rest := [.int y]) (xW_tl hm_) rfl (p_twoKeys (show i ≤ 2048 by omega) hR hx) xW_pm gL_law_X11_twoKeys rfl rfl rfl (by show yX11_twoKeys.cls = RX11 ∧ yX11_twoKeys.cls ≠ "java/lang/invoke/MethodHandle" ∧ yX11_twoKeys.cls ≠ "java/lang/invoke/VarHandle" ∧ (parseMethodDescriptor yX11_twoKeys.desc).map (fun d => d.parameters.length) = some 0; decide +kernel) ⟨Nat.le_of_ble_eq_true rfl, Nat.le_of_ble_eq_true rfl⟩ rfl (Nat.le_of_ble_eq_true rfl) dL_law_517 ⟨by show k + 0 ≤ 600000; omega, by show n + 0 ≤ 7302250; omega⟩ (fun v_ w_ hvw => ?_)
  obtain ⟨rfl, f', hh', A', rfl, hR'⟩ := hvw
  refine q_perm xW_pm.symm ?_
  refine q_at (pc' := 520) (st' := [.int y, .int y]) (ws' := xW E D S' (mC E a f' hh' A' ++ tl)) (k' := k) (n' := n) rfl rfl rfl rfl rfl ?_
  refine q_icmp_eq F (tgt := 726) dL_law_520 (by decide) (fun _ => ?_) (fun h => absurd rfl h)
  have hT : S'.1 = S.1 := tS_twoKeys hx
  exact q_widen (by omega) (by omega) (nx S' f' hh' A' tl (hT ▸ hS) hR')
set_option maxHeartbeats 4000000 in
theorem lc_see (F : gOK p s m #[Value.ref b] meth c cL_law 4 RL wsL_law E A) (hX : va_X b L xs s s.heap) (hbl : b < s.heap.size) (hbA : ¬ A b) (hL : L ≤ 2048) (hi : i + 4 ≤ L) (hS : isHs S.1 tl) (hR : Rel i S f A9) (hk : k ≤ 500000) (hn : n ≤ 7000000) (nx : ∀ (S' : gSt) (f' : gF) (hh' : Int64) (A' : gA) (tl' : va_W), isHs S'.1 tl' → Rel (i + 4) S' f' A' → gW p l e room_1 s m #[Value.ref b] below meth c E A 4 Q 726 [(0, .ref b), (1, .ref D.1), (2, .ref (a 32)), (3, .int (nI i))] [] (xW E D S' (mC E a f' hh' A' ++ tl')) (k + 6) (n + 18)) : gW p l e room_1 s m #[Value.ref b] below meth c E A 4 Q 525 [(0, .ref b), (1, .ref D.1), (2, .ref (a 32)), (3, .int (nI i))] [] (xW E D S (mC E a f hh A9 ++ tl)) k n := by
  obtain ⟨sk, sh, hk6, h20, hsk, hsh, hs⟩ := hR.sn
  by_cases hb0 : xs (i + 3) = 0
  · skip
    refine q_aload_n F 1 dL_law_525 rfl ?_
    refine q_aload_n F 0 dL_law_526 rfl ?_
    refine q_iload_n F 3 dL_law_527 rfl ?_
    refine q_iconst F dL_law_528 (v := nI 1) (by decide) ?_
    refine q_iadd F dL_law_529 ?_
    refine q_toi (nI (i + 1)) (nI_add _ _) ?_
    refine q_sld F hX hbl hbA (i + 1) (by omega) (by omega) dL_law_530 ?_
    refine q_aload_n F 0 dL_law_531 rfl ?_
    refine q_iload_n F 3 dL_law_532 rfl ?_
    refine q_iconst F dL_law_533 (v := nI 2) (by decide) ?_
    refine q_iadd F dL_law_534 ?_
    refine q_toi (nI (i + 2)) (nI_add _ _) ?_
    refine q_sld F hX hbl hbA (i + 2) (by omega) (by omega) dL_law_535 ?_
    refine q_aload_n F 0 dL_law_536 rfl ?_
    refine q_iload_n F 3 dL_law_537 rfl ?_
    refine q_iconst F dL_law_538 (v := nI 3) (by decide) ?_
    refine q_iadd F dL_law_539 ?_
    refine q_toi (nI (i + 3)) (nI_add _ _) ?_
    refine q_sld F hX hbl hbA (i + 3) (by omega) (by omega) dL_law_540 ?_
    refine q_if_eq F (tgt := 548) dL_law_541 (by decide) (fun _ => ?_) (fun h => absurd hb0 h)
    refine q_iconst F dL_law_548 (v := nI 0) (by decide) ?_
    refine q_callV F (ci := 10) (As := [.int (xs (i + 1)), .int (xs (i + 2)), .int (nI 0)]) (rest := []) (xW_mem E D S _) rfl (x_see l E D S (mC E a f hh A9 ++ tl) (isHs.r _ hS) hR.1.1 hR.2.2.2.1.1 sk hsk hk6 (xs (i + 1)) (xs (i + 2)) (nI 0) (by decide)) (List.Perm.refl _) gL_law_X10_see rfl rfl rfl (by show yX10_see.cls = RX10 ∧ yX10_see.cls ≠ "java/lang/invoke/MethodHandle" ∧ yX10_see.cls ≠ "java/lang/invoke/VarHandle" ∧ (parseMethodDescriptor yX10_see.desc).map (fun d => d.parameters.length) = some 3; decide +kernel) ⟨Nat.le_of_ble_eq_true rfl, Nat.le_of_ble_eq_true rfl⟩ rfl (Nat.le_of_ble_eq_true rfl) dL_law_549 ⟨by show k + 0 ≤ 600000; omega, by show n + 0 ≤ 7302250; omega⟩ (fun v_ w_ hvw => ?_)
    obtain ⟨y, S', rfl, rfl, hx⟩ := hvw
    refine q_at (pc' := 552) (st' := [.int y]) (ws' := xW E D S' (mC E a f hh A9 ++ tl)) (k' := k) (n' := n) rfl rfl rfl rfl rfl ?_
    refine q_aload_n F 2 dL_law_552 rfl ?_
    refine q_aload_n F 0 dL_law_553 rfl ?_
    refine q_iload_n F 3 dL_law_554 rfl ?_
    refine q_iconst F dL_law_555 (v := nI 1) (by decide) ?_
    refine q_iadd F dL_law_556 ?_
    refine q_toi (nI (i + 1)) (nI_add _ _) ?_
    refine q_sld F hX hbl hbA (i + 1) (by omega) (by omega) dL_law_557 ?_
    refine q_aload_n F 0 dL_law_558 rfl ?_
    refine q_iload_n F 3 dL_law_559 rfl ?_
    refine q_iconst F dL_law_560 (v := nI 2) (by decide) ?_
    refine q_iadd F dL_law_561 ?_
    refine q_toi (nI (i + 2)) (nI_add _ _) ?_
    refine q_sld F hX hbl hbA (i + 2) (by omega) (by omega) dL_law_562 ?_
    refine q_aload_n F 0 dL_law_563 rfl ?_
    refine q_iload_n F 3 dL_law_564 rfl ?_
    refine q_iconst F dL_law_565 (v := nI 3) (by decide) ?_
    refine q_iadd F dL_law_566 ?_
    refine q_toi (nI (i + 3)) (nI_add _ _) ?_
    refine q_sld F hX hbl hbA (i + 3) (by omega) (by omega) dL_law_567 ?_
    refine q_if_eq F (tgt := 575) dL_law_568 (by decide) (fun _ => ?_) (fun h => absurd hb0 h)
    refine q_iconst F dL_law_575 (v := nI 0) (by decide) ?_
    obtain ⟨fs_, hm_⟩ := mC_mem E a f hh A9 tl
    refine q_callV F (ci := 11) (As := [.int (xs (i + 1)), .int (xs (i + 2)), .int (nI 0)]) (rest := [.int y]) (xW_tl hm_) rfl (p_see hR hsk hk6 (Or.inl rfl) hx) xW_pm gL_law_X11_see rfl rfl rfl (by show yX11_see.cls = RX11 ∧ yX11_see.cls ≠ "java/lang/invoke/MethodHandle" ∧ yX11_see.cls ≠ "java/lang/invoke/VarHandle" ∧ (parseMethodDescriptor yX11_see.desc).map (fun d => d.parameters.length) = some 3; decide +kernel) ⟨Nat.le_of_ble_eq_true rfl, Nat.le_of_ble_eq_true rfl⟩ rfl (Nat.le_of_ble_eq_true rfl) dL_law_576 ⟨by show k + 0 ≤ 600000; omega, by show n + 0 ≤ 7302250; omega⟩ (fun v_ w_ hvw => ?_)
    obtain ⟨rfl, f', hh', A', rfl, hR'⟩ := hvw
    refine q_perm xW_pm.symm ?_
    refine q_at (pc' := 579) (st' := [.int y, .int y]) (ws' := xW E D S' (mC E a f' hh' A' ++ tl)) (k' := k) (n' := n) rfl rfl rfl rfl rfl ?_
    refine q_icmp_eq F (tgt := 726) dL_law_579 (by decide) (fun _ => ?_) (fun h => absurd rfl h)
    have hT : S'.1 = S.1 := tS_see hx
    exact q_widen (by omega) (by omega) (nx S' f' hh' A' tl (hT ▸ hS) hR')
  · skip
    refine q_aload_n F 1 dL_law_525 rfl ?_
    refine q_aload_n F 0 dL_law_526 rfl ?_
    refine q_iload_n F 3 dL_law_527 rfl ?_
    refine q_iconst F dL_law_528 (v := nI 1) (by decide) ?_
    refine q_iadd F dL_law_529 ?_
    refine q_toi (nI (i + 1)) (nI_add _ _) ?_
    refine q_sld F hX hbl hbA (i + 1) (by omega) (by omega) dL_law_530 ?_
    refine q_aload_n F 0 dL_law_531 rfl ?_
    refine q_iload_n F 3 dL_law_532 rfl ?_
    refine q_iconst F dL_law_533 (v := nI 2) (by decide) ?_
    refine q_iadd F dL_law_534 ?_
    refine q_toi (nI (i + 2)) (nI_add _ _) ?_
    refine q_sld F hX hbl hbA (i + 2) (by omega) (by omega) dL_law_535 ?_
    refine q_aload_n F 0 dL_law_536 rfl ?_
    refine q_iload_n F 3 dL_law_537 rfl ?_
    refine q_iconst F dL_law_538 (v := nI 3) (by decide) ?_
    refine q_iadd F dL_law_539 ?_
    refine q_toi (nI (i + 3)) (nI_add _ _) ?_
    refine q_sld F hX hbl hbA (i + 3) (by omega) (by omega) dL_law_540 ?_
    refine q_if_eq F (tgt := 548) dL_law_541 (by decide) (fun h => absurd h hb0) (fun _ => ?_)
    refine q_iconst F dL_law_544 (v := nI 1) (by decide) ?_
    refine q_goto F (tgt := 549) dL_law_545 (by decide) ?_
    refine q_callV F (ci := 10) (As := [.int (xs (i + 1)), .int (xs (i + 2)), .int (nI 1)]) (rest := []) (xW_mem E D S _) rfl (x_see l E D S (mC E a f hh A9 ++ tl) (isHs.r _ hS) hR.1.1 hR.2.2.2.1.1 sk hsk hk6 (xs (i + 1)) (xs (i + 2)) (nI 1) (by decide)) (List.Perm.refl _) gL_law_X10_see rfl rfl rfl (by show yX10_see.cls = RX10 ∧ yX10_see.cls ≠ "java/lang/invoke/MethodHandle" ∧ yX10_see.cls ≠ "java/lang/invoke/VarHandle" ∧ (parseMethodDescriptor yX10_see.desc).map (fun d => d.parameters.length) = some 3; decide +kernel) ⟨Nat.le_of_ble_eq_true rfl, Nat.le_of_ble_eq_true rfl⟩ rfl (Nat.le_of_ble_eq_true rfl) dL_law_549 ⟨by show k + 0 ≤ 600000; omega, by show n + 0 ≤ 7302250; omega⟩ (fun v_ w_ hvw => ?_)
    obtain ⟨y, S', rfl, rfl, hx⟩ := hvw
    refine q_at (pc' := 552) (st' := [.int y]) (ws' := xW E D S' (mC E a f hh A9 ++ tl)) (k' := k) (n' := n) rfl rfl rfl rfl rfl ?_
    refine q_aload_n F 2 dL_law_552 rfl ?_
    refine q_aload_n F 0 dL_law_553 rfl ?_
    refine q_iload_n F 3 dL_law_554 rfl ?_
    refine q_iconst F dL_law_555 (v := nI 1) (by decide) ?_
    refine q_iadd F dL_law_556 ?_
    refine q_toi (nI (i + 1)) (nI_add _ _) ?_
    refine q_sld F hX hbl hbA (i + 1) (by omega) (by omega) dL_law_557 ?_
    refine q_aload_n F 0 dL_law_558 rfl ?_
    refine q_iload_n F 3 dL_law_559 rfl ?_
    refine q_iconst F dL_law_560 (v := nI 2) (by decide) ?_
    refine q_iadd F dL_law_561 ?_
    refine q_toi (nI (i + 2)) (nI_add _ _) ?_
    refine q_sld F hX hbl hbA (i + 2) (by omega) (by omega) dL_law_562 ?_
    refine q_aload_n F 0 dL_law_563 rfl ?_
    refine q_iload_n F 3 dL_law_564 rfl ?_
    refine q_iconst F dL_law_565 (v := nI 3) (by decide) ?_
    refine q_iadd F dL_law_566 ?_
    refine q_toi (nI (i + 3)) (nI_add _ _) ?_
    refine q_sld F hX hbl hbA (i + 3) (by omega) (by omega) dL_law_567 ?_
    refine q_if_eq F (tgt := 575) dL_law_568 (by decide) (fun h => absurd h hb0) (fun _ => ?_)
    refine q_iconst F dL_law_571 (v := nI 1) (by decide) ?_
    refine q_goto F (tgt := 576) dL_law_572 (by decide) ?_
    obtain ⟨fs_, hm_⟩ := mC_mem E a f hh A9 tl
    refine q_callV F (ci := 11) (As := [.int (xs (i + 1)), .int (xs (i + 2)), .int (nI 1)]) (rest := [.int y]) (xW_tl hm_) rfl (p_see hR hsk hk6 (Or.inr rfl) hx) xW_pm gL_law_X11_see rfl rfl rfl (by show yX11_see.cls = RX11 ∧ yX11_see.cls ≠ "java/lang/invoke/MethodHandle" ∧ yX11_see.cls ≠ "java/lang/invoke/VarHandle" ∧ (parseMethodDescriptor yX11_see.desc).map (fun d => d.parameters.length) = some 3; decide +kernel) ⟨Nat.le_of_ble_eq_true rfl, Nat.le_of_ble_eq_true rfl⟩ rfl (Nat.le_of_ble_eq_true rfl) dL_law_576 ⟨by show k + 0 ≤ 600000; omega, by show n + 0 ≤ 7302250; omega⟩ (fun v_ w_ hvw => ?_)
    obtain ⟨rfl, f', hh', A', rfl, hR'⟩ := hvw
    refine q_perm xW_pm.symm ?_
    refine q_at (pc' := 579) (st' := [.int y, .int y]) (ws' := xW E D S' (mC E a f' hh' A' ++ tl)) (k' := k) (n' := n) rfl rfl rfl rfl rfl ?_
    refine q_icmp_eq F (tgt := 726) dL_law_579 (by decide) (fun _ => ?_) (fun h => absurd rfl h)
    have hT : S'.1 = S.1 := tS_see hx
    exact q_widen (by omega) (by omega) (nx S' f' hh' A' tl (hT ▸ hS) hR')
set_option maxHeartbeats 4000000 in
theorem lc_forget (F : gOK p s m #[Value.ref b] meth c cL_law 4 RL wsL_law E A) (hX : va_X b L xs s s.heap) (hbl : b < s.heap.size) (hbA : ¬ A b) (hL : L ≤ 2048) (hi : i + 4 ≤ L) (hS : isHs S.1 tl) (hR : Rel i S f A9) (hk : k ≤ 500000) (hn : n ≤ 7000000) (nx : ∀ (S' : gSt) (f' : gF) (hh' : Int64) (A' : gA) (tl' : va_W), isHs S'.1 tl' → Rel (i + 4) S' f' A' → gW p l e room_1 s m #[Value.ref b] below meth c E A 4 Q 726 [(0, .ref b), (1, .ref D.1), (2, .ref (a 32)), (3, .int (nI i))] [] (xW E D S' (mC E a f' hh' A' ++ tl')) (k + 6) (n + 18)) : gW p l e room_1 s m #[Value.ref b] below meth c E A 4 Q 584 [(0, .ref b), (1, .ref D.1), (2, .ref (a 32)), (3, .int (nI i))] [] (xW E D S (mC E a f hh A9 ++ tl)) k n := by
  refine q_aload_n F 1 dL_law_584 rfl ?_
  refine q_callV F (ci := 10) (As := []) (rest := []) (xW_mem E D S _) rfl (x_forget l E D S (mC E a f hh A9 ++ tl) (isHs.r _ hS) hR.1.1 hR.2.2.2.1.1 ) (List.Perm.refl _) gL_law_X10_forget rfl rfl rfl (by show yX10_forget.cls = RX10 ∧ yX10_forget.cls ≠ "java/lang/invoke/MethodHandle" ∧ yX10_forget.cls ≠ "java/lang/invoke/VarHandle" ∧ (parseMethodDescriptor yX10_forget.desc).map (fun d => d.parameters.length) = some 0; decide +kernel) ⟨Nat.le_of_ble_eq_true rfl, Nat.le_of_ble_eq_true rfl⟩ rfl (Nat.le_of_ble_eq_true rfl) dL_law_585 ⟨by show k + 0 ≤ 600000; omega, by show n + 0 ≤ 7302250; omega⟩ (fun v_ w_ hvw => ?_)
  obtain ⟨y, S', rfl, rfl, hx⟩ := hvw
  refine q_at (pc' := 588) (st' := [.int y]) (ws' := xW E D S' (mC E a f hh A9 ++ tl)) (k' := k) (n' := n) rfl rfl rfl rfl rfl ?_
  refine q_aload_n F 2 dL_law_588 rfl ?_
  obtain ⟨fs_, hm_⟩ := mC_mem E a f hh A9 tl
  refine q_callV F (ci := 11) (As := []) (rest := [.int y]) (xW_tl hm_) rfl (p_forget hR hx) xW_pm gL_law_X11_forget rfl rfl rfl (by show yX11_forget.cls = RX11 ∧ yX11_forget.cls ≠ "java/lang/invoke/MethodHandle" ∧ yX11_forget.cls ≠ "java/lang/invoke/VarHandle" ∧ (parseMethodDescriptor yX11_forget.desc).map (fun d => d.parameters.length) = some 0; decide +kernel) ⟨Nat.le_of_ble_eq_true rfl, Nat.le_of_ble_eq_true rfl⟩ rfl (Nat.le_of_ble_eq_true rfl) dL_law_589 ⟨by show k + 0 ≤ 600000; omega, by show n + 0 ≤ 7302250; omega⟩ (fun v_ w_ hvw => ?_)
  obtain ⟨rfl, f', hh', A', rfl, hR'⟩ := hvw
  refine q_perm xW_pm.symm ?_
  refine q_at (pc' := 592) (st' := [.int y, .int y]) (ws' := xW E D S' (mC E a f' hh' A' ++ tl)) (k' := k) (n' := n) rfl rfl rfl rfl rfl ?_
  refine q_icmp_eq F (tgt := 726) dL_law_592 (by decide) (fun _ => ?_) (fun h => absurd rfl h)
  have hT : S'.1 = S.1 := tS_forget hx
  exact q_widen (by omega) (by omega) (nx S' f' hh' A' tl (hT ▸ hS) hR')
set_option maxHeartbeats 4000000 in
theorem lc_guess (F : gOK p s m #[Value.ref b] meth c cL_law 4 RL wsL_law E A) (hX : va_X b L xs s s.heap) (hbl : b < s.heap.size) (hbA : ¬ A b) (hL : L ≤ 2048) (hi : i + 4 ≤ L) (hS : isHs S.1 tl) (hR : Rel i S f A9) (hk : k ≤ 500000) (hn : n ≤ 7000000) (nx : ∀ (S' : gSt) (f' : gF) (hh' : Int64) (A' : gA) (tl' : va_W), isHs S'.1 tl' → Rel (i + 4) S' f' A' → gW p l e room_1 s m #[Value.ref b] below meth c E A 4 Q 726 [(0, .ref b), (1, .ref D.1), (2, .ref (a 32)), (3, .int (nI i))] [] (xW E D S' (mC E a f' hh' A' ++ tl')) (k + 6) (n + 18)) : gW p l e room_1 s m #[Value.ref b] below meth c E A 4 Q 597 [(0, .ref b), (1, .ref D.1), (2, .ref (a 32)), (3, .int (nI i))] [] (xW E D S (mC E a f hh A9 ++ tl)) k n := by
  obtain ⟨sk, sh, hk6, h20, hsk, hsh, hs⟩ := hR.sn
  refine q_aload_n F 1 dL_law_597 rfl ?_
  refine q_aload_n F 0 dL_law_598 rfl ?_
  refine q_iload_n F 3 dL_law_599 rfl ?_
  refine q_iconst F dL_law_600 (v := nI 1) (by decide) ?_
  refine q_iadd F dL_law_601 ?_
  refine q_toi (nI (i + 1)) (nI_add _ _) ?_
  refine q_sld F hX hbl hbA (i + 1) (by omega) (by omega) dL_law_602 ?_
  refine q_callV F (ci := 10) (As := [.int (xs (i + 1))]) (rest := []) (xW_mem E D S _) rfl (x_guess l E D S (mC E a f hh A9 ++ tl) (isHs.r _ hS) hR.1.1 hR.2.2.2.1.1 sk hsk hk6 (xs (i + 1)) hR.2.2.2.2.1.2.2.2.2.2.2.2.2.2) (List.Perm.refl _) gL_law_X10_guess rfl rfl rfl (by show yX10_guess.cls = RX10 ∧ yX10_guess.cls ≠ "java/lang/invoke/MethodHandle" ∧ yX10_guess.cls ≠ "java/lang/invoke/VarHandle" ∧ (parseMethodDescriptor yX10_guess.desc).map (fun d => d.parameters.length) = some 1; decide +kernel) ⟨Nat.le_of_ble_eq_true rfl, Nat.le_of_ble_eq_true rfl⟩ rfl (Nat.le_of_ble_eq_true rfl) dL_law_603 ⟨by show k + 0 ≤ 600000; omega, by show n + 0 ≤ 7302250; omega⟩ (fun v_ w_ hvw => ?_)
  obtain ⟨y, S', rfl, rfl, hx⟩ := hvw
  refine q_at (pc' := 606) (st' := [.int y]) (ws' := xW E D S' (mC E a f hh A9 ++ tl)) (k' := k) (n' := n) rfl rfl rfl rfl rfl ?_
  refine q_aload_n F 2 dL_law_606 rfl ?_
  refine q_aload_n F 0 dL_law_607 rfl ?_
  refine q_iload_n F 3 dL_law_608 rfl ?_
  refine q_iconst F dL_law_609 (v := nI 1) (by decide) ?_
  refine q_iadd F dL_law_610 ?_
  refine q_toi (nI (i + 1)) (nI_add _ _) ?_
  refine q_sld F hX hbl hbA (i + 1) (by omega) (by omega) dL_law_611 ?_
  obtain ⟨fs_, hm_⟩ := mC_mem E a f hh A9 tl
  refine q_callV F (ci := 11) (As := [.int (xs (i + 1))]) (rest := [.int y]) (xW_tl hm_) rfl (p_guess (show i ≤ 2048 by omega) hR hsk hk6 hsh hs hx) xW_pm gL_law_X11_guess rfl rfl rfl (by show yX11_guess.cls = RX11 ∧ yX11_guess.cls ≠ "java/lang/invoke/MethodHandle" ∧ yX11_guess.cls ≠ "java/lang/invoke/VarHandle" ∧ (parseMethodDescriptor yX11_guess.desc).map (fun d => d.parameters.length) = some 1; decide +kernel) ⟨Nat.le_of_ble_eq_true rfl, Nat.le_of_ble_eq_true rfl⟩ rfl (Nat.le_of_ble_eq_true rfl) dL_law_612 ⟨by show k + 0 ≤ 600000; omega, by show n + 0 ≤ 7302250; omega⟩ (fun v_ w_ hvw => ?_)
  obtain ⟨rfl, f', hh', A', rfl, hR'⟩ := hvw
  refine q_perm xW_pm.symm ?_
  refine q_at (pc' := 615) (st' := [.int y, .int y]) (ws' := xW E D S' (mC E a f' hh' A' ++ tl)) (k' := k) (n' := n) rfl rfl rfl rfl rfl ?_
  refine q_icmp_eq F (tgt := 726) dL_law_615 (by decide) (fun _ => ?_) (fun h => absurd rfl h)
  have hT : S'.1 = S.1 := tS_guess hx
  exact q_widen (by omega) (by omega) (nx S' f' hh' A' tl (hT ▸ hS) hR')
set_option maxHeartbeats 4000000 in
theorem lc_nights (F : gOK p s m #[Value.ref b] meth c cL_law 4 RL wsL_law E A) (hX : va_X b L xs s s.heap) (hbl : b < s.heap.size) (hbA : ¬ A b) (hL : L ≤ 2048) (hi : i + 4 ≤ L) (hS : isHs S.1 tl) (hR : Rel i S f A9) (hk : k ≤ 500000) (hn : n ≤ 7000000) (nx : ∀ (S' : gSt) (f' : gF) (hh' : Int64) (A' : gA) (tl' : va_W), isHs S'.1 tl' → Rel (i + 4) S' f' A' → gW p l e room_1 s m #[Value.ref b] below meth c E A 4 Q 726 [(0, .ref b), (1, .ref D.1), (2, .ref (a 32)), (3, .int (nI i))] [] (xW E D S' (mC E a f' hh' A' ++ tl')) (k + 6) (n + 18)) : gW p l e room_1 s m #[Value.ref b] below meth c E A 4 Q 620 [(0, .ref b), (1, .ref D.1), (2, .ref (a 32)), (3, .int (nI i))] [] (xW E D S (mC E a f hh A9 ++ tl)) k n := by
  refine q_aload_n F 1 dL_law_620 rfl ?_
  refine q_aload_n F 0 dL_law_621 rfl ?_
  refine q_iload_n F 3 dL_law_622 rfl ?_
  refine q_iconst F dL_law_623 (v := nI 1) (by decide) ?_
  refine q_iadd F dL_law_624 ?_
  refine q_toi (nI (i + 1)) (nI_add _ _) ?_
  refine q_sld F hX hbl hbA (i + 1) (by omega) (by omega) dL_law_625 ?_
  refine q_aload_n F 0 dL_law_626 rfl ?_
  refine q_iload_n F 3 dL_law_627 rfl ?_
  refine q_iconst F dL_law_628 (v := nI 2) (by decide) ?_
  refine q_iadd F dL_law_629 ?_
  refine q_toi (nI (i + 2)) (nI_add _ _) ?_
  refine q_sld F hX hbl hbA (i + 2) (by omega) (by omega) dL_law_630 ?_
  refine q_aload_n F 0 dL_law_631 rfl ?_
  refine q_iload_n F 3 dL_law_632 rfl ?_
  refine q_iconst F dL_law_633 (v := nI 3) (by decide) ?_
  refine q_iadd F dL_law_634 ?_
  refine q_toi (nI (i + 3)) (nI_add _ _) ?_
  refine q_sld F hX hbl hbA (i + 3) (by omega) (by omega) dL_law_635 ?_
  refine q_callV F (ci := 10) (As := [.int (xs (i + 1)), .int (xs (i + 2)), .int (xs (i + 3))]) (rest := []) (xW_mem E D S _) rfl (x_nights l E D S (mC E a f hh A9 ++ tl) (isHs.r _ hS) hR.1.1 hR.2.2.2.1.1 (xs (i + 1)) (xs (i + 2)) (xs (i + 3))) (List.Perm.refl _) gL_law_X10_nights rfl rfl rfl (by show yX10_nights.cls = RX10 ∧ yX10_nights.cls ≠ "java/lang/invoke/MethodHandle" ∧ yX10_nights.cls ≠ "java/lang/invoke/VarHandle" ∧ (parseMethodDescriptor yX10_nights.desc).map (fun d => d.parameters.length) = some 3; decide +kernel) ⟨Nat.le_of_ble_eq_true rfl, Nat.le_of_ble_eq_true rfl⟩ rfl (Nat.le_of_ble_eq_true rfl) dL_law_636 ⟨by show k + 0 ≤ 600000; omega, by show n + 0 ≤ 7302250; omega⟩ (fun v_ w_ hvw => ?_)
  obtain ⟨y, S', rfl, rfl, hx⟩ := hvw
  refine q_at (pc' := 639) (st' := [.int y]) (ws' := xW E D S' (mC E a f hh A9 ++ tl)) (k' := k) (n' := n) rfl rfl rfl rfl rfl ?_
  refine q_aload_n F 2 dL_law_639 rfl ?_
  refine q_aload_n F 0 dL_law_640 rfl ?_
  refine q_iload_n F 3 dL_law_641 rfl ?_
  refine q_iconst F dL_law_642 (v := nI 1) (by decide) ?_
  refine q_iadd F dL_law_643 ?_
  refine q_toi (nI (i + 1)) (nI_add _ _) ?_
  refine q_sld F hX hbl hbA (i + 1) (by omega) (by omega) dL_law_644 ?_
  refine q_aload_n F 0 dL_law_645 rfl ?_
  refine q_iload_n F 3 dL_law_646 rfl ?_
  refine q_iconst F dL_law_647 (v := nI 2) (by decide) ?_
  refine q_iadd F dL_law_648 ?_
  refine q_toi (nI (i + 2)) (nI_add _ _) ?_
  refine q_sld F hX hbl hbA (i + 2) (by omega) (by omega) dL_law_649 ?_
  refine q_aload_n F 0 dL_law_650 rfl ?_
  refine q_iload_n F 3 dL_law_651 rfl ?_
  refine q_iconst F dL_law_652 (v := nI 3) (by decide) ?_
  refine q_iadd F dL_law_653 ?_
  refine q_toi (nI (i + 3)) (nI_add _ _) ?_
  refine q_sld F hX hbl hbA (i + 3) (by omega) (by omega) dL_law_654 ?_
  obtain ⟨fs_, hm_⟩ := mC_mem E a f hh A9 tl
  refine q_callV F (ci := 11) (As := [.int (xs (i + 1)), .int (xs (i + 2)), .int (xs (i + 3))]) (rest := [.int y]) (xW_tl hm_) rfl (p_nights hR hx) xW_pm gL_law_X11_nights rfl rfl rfl (by show yX11_nights.cls = RX11 ∧ yX11_nights.cls ≠ "java/lang/invoke/MethodHandle" ∧ yX11_nights.cls ≠ "java/lang/invoke/VarHandle" ∧ (parseMethodDescriptor yX11_nights.desc).map (fun d => d.parameters.length) = some 3; decide +kernel) ⟨Nat.le_of_ble_eq_true rfl, Nat.le_of_ble_eq_true rfl⟩ rfl (Nat.le_of_ble_eq_true rfl) dL_law_655 ⟨by show k + 0 ≤ 600000; omega, by show n + 0 ≤ 7302250; omega⟩ (fun v_ w_ hvw => ?_)
  obtain ⟨rfl, f', hh', A', rfl, hR'⟩ := hvw
  refine q_perm xW_pm.symm ?_
  refine q_at (pc' := 658) (st' := [.int y, .int y]) (ws' := xW E D S' (mC E a f' hh' A' ++ tl)) (k' := k) (n' := n) rfl rfl rfl rfl rfl ?_
  refine q_icmp_eq F (tgt := 726) dL_law_658 (by decide) (fun _ => ?_) (fun h => absurd rfl h)
  have hT : S'.1 = S.1 := tS_nights hx
  exact q_widen (by omega) (by omega) (nx S' f' hh' A' tl (hT ▸ hS) hR')
set_option maxHeartbeats 4000000 in
theorem lc_image (F : gOK p s m #[Value.ref b] meth c cL_law 4 RL wsL_law E A) (hX : va_X b L xs s s.heap) (hbl : b < s.heap.size) (hbA : ¬ A b) (hL : L ≤ 2048) (hi : i + 4 ≤ L) (hS : isHs S.1 tl) (hR : Rel i S f A9) (hk : k ≤ 500000) (hn : n ≤ 7000000) (nx : ∀ (S' : gSt) (f' : gF) (hh' : Int64) (A' : gA) (tl' : va_W), isHs S'.1 tl' → Rel (i + 4) S' f' A' → gW p l e room_1 s m #[Value.ref b] below meth c E A 4 Q 726 [(0, .ref b), (1, .ref D.1), (2, .ref (a 32)), (3, .int (nI i))] [] (xW E D S' (mC E a f' hh' A' ++ tl')) (k + 6) (n + 18)) : gW p l e room_1 s m #[Value.ref b] below meth c E A 4 Q 663 [(0, .ref b), (1, .ref D.1), (2, .ref (a 32)), (3, .int (nI i))] [] (xW E D S (mC E a f hh A9 ++ tl)) k n := by
  refine q_aload_n F 1 dL_law_663 rfl ?_
  refine q_callV F (ci := 10) (As := []) (rest := []) (xW_mem E D S _) rfl (x_image l E D S (mC E a f hh A9 ++ tl) (isHs.r _ hS) hR.1.1 hR.2.2.2.1.1 hR.2.2.2.2.1.2.2.2.2.2.2.2.2.2) (List.Perm.refl _) gL_law_X10_image rfl rfl rfl (by show yX10_image.cls = RX10 ∧ yX10_image.cls ≠ "java/lang/invoke/MethodHandle" ∧ yX10_image.cls ≠ "java/lang/invoke/VarHandle" ∧ (parseMethodDescriptor yX10_image.desc).map (fun d => d.parameters.length) = some 0; decide +kernel) ⟨Nat.le_of_ble_eq_true rfl, Nat.le_of_ble_eq_true rfl⟩ rfl (Nat.le_of_ble_eq_true rfl) dL_law_664 ⟨by show k + 0 ≤ 600000; omega, by show n + 0 ≤ 7302250; omega⟩ (fun v_ w_ hvw => ?_)
  obtain ⟨y, S', rfl, rfl, hx⟩ := hvw
  refine q_at (pc' := 667) (st' := [.int y]) (ws' := xW E D S' (mC E a f hh A9 ++ tl)) (k' := k) (n' := n) rfl rfl rfl rfl rfl ?_
  refine q_aload_n F 2 dL_law_667 rfl ?_
  obtain ⟨fs_, hm_⟩ := mC_mem E a f hh A9 tl
  refine q_callV F (ci := 11) (As := []) (rest := [.int y]) (xW_tl hm_) rfl (p_image hR hx) xW_pm gL_law_X11_image rfl rfl rfl (by show yX11_image.cls = RX11 ∧ yX11_image.cls ≠ "java/lang/invoke/MethodHandle" ∧ yX11_image.cls ≠ "java/lang/invoke/VarHandle" ∧ (parseMethodDescriptor yX11_image.desc).map (fun d => d.parameters.length) = some 0; decide +kernel) ⟨Nat.le_of_ble_eq_true rfl, Nat.le_of_ble_eq_true rfl⟩ rfl (Nat.le_of_ble_eq_true rfl) dL_law_668 ⟨by show k + 0 ≤ 600000; omega, by show n + 0 ≤ 7302250; omega⟩ (fun v_ w_ hvw => ?_)
  obtain ⟨rfl, f', hh', A', rfl, hR'⟩ := hvw
  refine q_perm xW_pm.symm ?_
  refine q_at (pc' := 671) (st' := [.int y, .int y]) (ws' := xW E D S' (mC E a f' hh' A' ++ tl)) (k' := k) (n' := n) rfl rfl rfl rfl rfl ?_
  refine q_icmp_eq F (tgt := 726) dL_law_671 (by decide) (fun _ => ?_) (fun h => absurd rfl h)
  have hT : S'.1 = S.1 := tS_image hx
  exact q_widen (by omega) (by omega) (nx S' f' hh' A' tl (hT ▸ hS) hR')
set_option maxHeartbeats 4000000 in
theorem lc_restore (F : gOK p s m #[Value.ref b] meth c cL_law 4 RL wsL_law E A) (hX : va_X b L xs s s.heap) (hbl : b < s.heap.size) (hbA : ¬ A b) (hL : L ≤ 2048) (hi : i + 4 ≤ L) (hS : isHs S.1 tl) (hR : Rel i S f A9) (hk : k ≤ 500000) (hn : n ≤ 7000000) (nx : ∀ (S' : gSt) (f' : gF) (hh' : Int64) (A' : gA) (tl' : va_W), isHs S'.1 tl' → Rel (i + 4) S' f' A' → gW p l e room_1 s m #[Value.ref b] below meth c E A 4 Q 726 [(0, .ref b), (1, .ref D.1), (2, .ref (a 32)), (3, .int (nI i))] [] (xW E D S' (mC E a f' hh' A' ++ tl')) (k + 6) (n + 18)) : gW p l e room_1 s m #[Value.ref b] below meth c E A 4 Q 676 [(0, .ref b), (1, .ref D.1), (2, .ref (a 32)), (3, .int (nI i))] [] (xW E D S (mC E a f hh A9 ++ tl)) k n := by
  refine q_aload_n F 1 dL_law_676 rfl ?_
  refine q_callV F (ci := 10) (As := []) (rest := []) (xW_mem E D S _) rfl (x_restore l E D S (mC E a f hh A9 ++ tl) (isHs.r _ hS) hR.1.1 hR.2.2.2.1.1 (Rel.hz1 hR)) (List.Perm.refl _) gL_law_X10_restore rfl rfl rfl (by show yX10_restore.cls = RX10 ∧ yX10_restore.cls ≠ "java/lang/invoke/MethodHandle" ∧ yX10_restore.cls ≠ "java/lang/invoke/VarHandle" ∧ (parseMethodDescriptor yX10_restore.desc).map (fun d => d.parameters.length) = some 0; decide +kernel) ⟨Nat.le_of_ble_eq_true rfl, Nat.le_of_ble_eq_true rfl⟩ rfl (Nat.le_of_ble_eq_true rfl) dL_law_677 ⟨by show k + 0 ≤ 600000; omega, by show n + 0 ≤ 7302250; omega⟩ (fun v_ w_ hvw => ?_)
  obtain ⟨y, S', rfl, rfl, hx⟩ := hvw
  refine q_at (pc' := 680) (st' := [.int y]) (ws' := xW E D S' (mC E a f hh A9 ++ tl)) (k' := k) (n' := n) rfl rfl rfl rfl rfl ?_
  refine q_aload_n F 2 dL_law_680 rfl ?_
  obtain ⟨fs_, hm_⟩ := mC_mem E a f hh A9 tl
  refine q_callV F (ci := 11) (As := []) (rest := [.int y]) (xW_tl hm_) rfl (p_restore (show i ≤ 2048 by omega) hR hx) xW_pm gL_law_X11_restore rfl rfl rfl (by show yX11_restore.cls = RX11 ∧ yX11_restore.cls ≠ "java/lang/invoke/MethodHandle" ∧ yX11_restore.cls ≠ "java/lang/invoke/VarHandle" ∧ (parseMethodDescriptor yX11_restore.desc).map (fun d => d.parameters.length) = some 0; decide +kernel) ⟨Nat.le_of_ble_eq_true rfl, Nat.le_of_ble_eq_true rfl⟩ rfl (Nat.le_of_ble_eq_true rfl) dL_law_681 ⟨by show k + 0 ≤ 600000; omega, by show n + 0 ≤ 7302250; omega⟩ (fun v_ w_ hvw => ?_)
  obtain ⟨rfl, f', hh', A', rfl, hR'⟩ := hvw
  refine q_perm xW_pm.symm ?_
  refine q_at (pc' := 684) (st' := [.int y, .int y]) (ws' := xW E D S' (mC E a f' hh' A' ++ tl)) (k' := k) (n' := n) rfl rfl rfl rfl rfl ?_
  refine q_icmp_eq F (tgt := 726) dL_law_684 (by decide) (fun _ => ?_) (fun h => absurd rfl h)
  have hT : S'.1 = S.1 := tS_restore hx
  exact q_widen (by omega) (by omega) (nx S' f' hh' A' tl (hT ▸ hS) hR')
set_option maxHeartbeats 4000000 in
theorem lc_count (F : gOK p s m #[Value.ref b] meth c cL_law 4 RL wsL_law E A) (hX : va_X b L xs s s.heap) (hbl : b < s.heap.size) (hbA : ¬ A b) (hL : L ≤ 2048) (hi : i + 4 ≤ L) (hS : isHs S.1 tl) (hR : Rel i S f A9) (hk : k ≤ 500000) (hn : n ≤ 7000000) (nx : ∀ (S' : gSt) (f' : gF) (hh' : Int64) (A' : gA) (tl' : va_W), isHs S'.1 tl' → Rel (i + 4) S' f' A' → gW p l e room_1 s m #[Value.ref b] below meth c E A 4 Q 726 [(0, .ref b), (1, .ref D.1), (2, .ref (a 32)), (3, .int (nI i))] [] (xW E D S' (mC E a f' hh' A' ++ tl')) (k + 6) (n + 18)) : gW p l e room_1 s m #[Value.ref b] below meth c E A 4 Q 689 [(0, .ref b), (1, .ref D.1), (2, .ref (a 32)), (3, .int (nI i))] [] (xW E D S (mC E a f hh A9 ++ tl)) k n := by
  refine q_aload_n F 1 dL_law_689 rfl ?_
  refine q_aload_n F 0 dL_law_690 rfl ?_
  refine q_iload_n F 3 dL_law_691 rfl ?_
  refine q_iconst F dL_law_692 (v := nI 1) (by decide) ?_
  refine q_iadd F dL_law_693 ?_
  refine q_toi (nI (i + 1)) (nI_add _ _) ?_
  refine q_sld F hX hbl hbA (i + 1) (by omega) (by omega) dL_law_694 ?_
  refine q_callV F (ci := 10) (As := [.int (xs (i + 1))]) (rest := []) (xW_mem E D S _) rfl (x_count l E D S (mC E a f hh A9 ++ tl) (isHs.r _ hS) hR.1.1 hR.2.2.2.1.1 (xs (i + 1))) (List.Perm.refl _) gL_law_X10_count rfl rfl rfl (by show yX10_count.cls = RX10 ∧ yX10_count.cls ≠ "java/lang/invoke/MethodHandle" ∧ yX10_count.cls ≠ "java/lang/invoke/VarHandle" ∧ (parseMethodDescriptor yX10_count.desc).map (fun d => d.parameters.length) = some 1; decide +kernel) ⟨Nat.le_of_ble_eq_true rfl, Nat.le_of_ble_eq_true rfl⟩ rfl (Nat.le_of_ble_eq_true rfl) dL_law_695 ⟨by show k + 0 ≤ 600000; omega, by show n + 0 ≤ 7302250; omega⟩ (fun v_ w_ hvw => ?_)
  obtain ⟨y, S', rfl, rfl, hx⟩ := hvw
  refine q_at (pc' := 698) (st' := [.int y]) (ws' := xW E D S' (mC E a f hh A9 ++ tl)) (k' := k) (n' := n) rfl rfl rfl rfl rfl ?_
  refine q_aload_n F 2 dL_law_698 rfl ?_
  refine q_aload_n F 0 dL_law_699 rfl ?_
  refine q_iload_n F 3 dL_law_700 rfl ?_
  refine q_iconst F dL_law_701 (v := nI 1) (by decide) ?_
  refine q_iadd F dL_law_702 ?_
  refine q_toi (nI (i + 1)) (nI_add _ _) ?_
  refine q_sld F hX hbl hbA (i + 1) (by omega) (by omega) dL_law_703 ?_
  obtain ⟨fs_, hm_⟩ := mC_mem E a f hh A9 tl
  refine q_callV F (ci := 11) (As := [.int (xs (i + 1))]) (rest := [.int y]) (xW_tl hm_) rfl (p_count hR hx) xW_pm gL_law_X11_count rfl rfl rfl (by show yX11_count.cls = RX11 ∧ yX11_count.cls ≠ "java/lang/invoke/MethodHandle" ∧ yX11_count.cls ≠ "java/lang/invoke/VarHandle" ∧ (parseMethodDescriptor yX11_count.desc).map (fun d => d.parameters.length) = some 1; decide +kernel) ⟨Nat.le_of_ble_eq_true rfl, Nat.le_of_ble_eq_true rfl⟩ rfl (Nat.le_of_ble_eq_true rfl) dL_law_704 ⟨by show k + 0 ≤ 600000; omega, by show n + 0 ≤ 7302250; omega⟩ (fun v_ w_ hvw => ?_)
  obtain ⟨rfl, f', hh', A', rfl, hR'⟩ := hvw
  refine q_perm xW_pm.symm ?_
  refine q_at (pc' := 707) (st' := [.int y, .int y]) (ws' := xW E D S' (mC E a f' hh' A' ++ tl)) (k' := k) (n' := n) rfl rfl rfl rfl rfl ?_
  refine q_icmp_eq F (tgt := 726) dL_law_707 (by decide) (fun _ => ?_) (fun h => absurd rfl h)
  have hT : S'.1 = S.1 := tS_count hx
  exact q_widen (by omega) (by omega) (nx S' f' hh' A' tl (hT ▸ hS) hR')
set_option maxHeartbeats 4000000 in
theorem lc_digest (F : gOK p s m #[Value.ref b] meth c cL_law 4 RL wsL_law E A) (hX : va_X b L xs s s.heap) (hbl : b < s.heap.size) (hbA : ¬ A b) (hL : L ≤ 2048) (hi : i + 4 ≤ L) (hS : isHs S.1 tl) (hR : Rel i S f A9) (hk : k ≤ 500000) (hn : n ≤ 7000000) (nx : ∀ (S' : gSt) (f' : gF) (hh' : Int64) (A' : gA) (tl' : va_W), isHs S'.1 tl' → Rel (i + 4) S' f' A' → gW p l e room_1 s m #[Value.ref b] below meth c E A 4 Q 726 [(0, .ref b), (1, .ref D.1), (2, .ref (a 32)), (3, .int (nI i))] [] (xW E D S' (mC E a f' hh' A' ++ tl')) (k + 6) (n + 18)) : gW p l e room_1 s m #[Value.ref b] below meth c E A 4 Q 712 [(0, .ref b), (1, .ref D.1), (2, .ref (a 32)), (3, .int (nI i))] [] (xW E D S (mC E a f hh A9 ++ tl)) k n := by
  obtain ⟨sk, sh, hk6, h20, hsk, hsh, hs⟩ := hR.sn
  refine q_aload_n F 1 dL_law_712 rfl ?_
  refine q_callV F (ci := 10) (As := []) (rest := []) (xW_mem E D S _) rfl (x_digest l E D S (mC E a f hh A9 ++ tl) (isHs.r _ hS) hR.1.1 hR.2.2.2.1.1 sk hsk hk6 hR.2.2.2.2.1.2.2.2.2.2.2.2.2.2 hR.2.2.2.2.1.okN) (List.Perm.refl _) gL_law_X10_digest rfl rfl rfl (by show yX10_digest.cls = RX10 ∧ yX10_digest.cls ≠ "java/lang/invoke/MethodHandle" ∧ yX10_digest.cls ≠ "java/lang/invoke/VarHandle" ∧ (parseMethodDescriptor yX10_digest.desc).map (fun d => d.parameters.length) = some 0; decide +kernel) ⟨Nat.le_of_ble_eq_true rfl, Nat.le_of_ble_eq_true rfl⟩ rfl (Nat.le_of_ble_eq_true rfl) dL_law_713 ⟨by show k + 0 ≤ 600000; omega, by show n + 0 ≤ 7302250; omega⟩ (fun v_ w_ hvw => ?_)
  obtain ⟨y, S', rfl, rfl, hx⟩ := hvw
  refine q_at (pc' := 716) (st' := [.long y]) (ws' := xW E D S' (mC E a f hh A9 ++ tl)) (k' := k) (n' := n) rfl rfl rfl rfl rfl ?_
  refine q_aload_n F 2 dL_law_716 rfl ?_
  obtain ⟨fs_, hm_⟩ := mC_mem E a f hh A9 tl
  refine q_callV F (ci := 11) (As := []) (rest := [.long y]) (xW_tl hm_) rfl (p_digest (show i ≤ 2048 by omega) hR hsk hk6 hsh hs hx) xW_pm gL_law_X11_digest rfl rfl rfl (by show yX11_digest.cls = RX11 ∧ yX11_digest.cls ≠ "java/lang/invoke/MethodHandle" ∧ yX11_digest.cls ≠ "java/lang/invoke/VarHandle" ∧ (parseMethodDescriptor yX11_digest.desc).map (fun d => d.parameters.length) = some 0; decide +kernel) ⟨Nat.le_of_ble_eq_true rfl, Nat.le_of_ble_eq_true rfl⟩ rfl (Nat.le_of_ble_eq_true rfl) dL_law_717 ⟨by show k + 0 ≤ 600000; omega, by show n + 0 ≤ 7302250; omega⟩ (fun v_ w_ hvw => ?_)
  obtain ⟨rfl, f', hh', A', rfl, hR'⟩ := hvw
  refine q_perm xW_pm.symm ?_
  refine q_at (pc' := 720) (st' := [.long y, .long y]) (ws' := xW E D S' (mC E a f' hh' A' ++ tl)) (k' := k) (n' := n) rfl rfl rfl rfl rfl ?_
  refine q_lcmp F dL_law_720 ?_
  refine q_toi (nI 0) (lgc_self y) ?_
  refine q_if_eq F (tgt := 726) dL_law_721 (by decide) (fun _ => ?_) (fun h => absurd rfl h)
  have hT : S'.1 = S.1 := tS_digest hx
  exact q_widen (by omega) (by omega) (nx S' f' hh' A' tl (hT ▸ hS) hR')
end CASES
