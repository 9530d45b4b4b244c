section TIE
variable {l : Launch} {E : gEnv} {a : Nat → Nat} {f : gF} {hh : Int64} {A : gA} {tl : va_W} {i : Nat} {S S' : gSt} {y x1 x2 x3 : Int32}
theorem p_letter (hR : Rel i S f A) (hX : rX_letter S x1 y S') : Cn l E yX11_letter wsX11_letter (rmL 1 0 0) [.ref (a 32), .int x1] (mC E a f hh A ++ tl) 0 0 (MP E a tl i y S') := Cn.mono (c_X11_letter l E a f hh A tl S.2.1 hR.2.2.2.1.2.1 hR.2.2.2.1.1 x1) fun v w h => by
  obtain ⟨T, n, pf, g, N, K, U, R⟩ := S
  obtain ⟨hO, h2, h3, ⟨p1, p2, p3⟩, h5, h6, h7⟩ := hR
  obtain ⟨rfl, rfl⟩ := h
  dsimp only at p1 p2 p3
  rcases hX with ⟨c, rfl, rfl⟩ | ⟨c, c2, rfl, rfl⟩ | ⟨c, c2, rfl, rfl⟩
  · have e : letM f A x1 = ((-102), f, A) := by unfold letM; rw [if_neg (by rw [c]; decide)]
    rw [e]
    exact ⟨rfl, f, hh, A, rfl, Rel.up ⟨hO, h2, h3, ⟨p1, p2, p3⟩, h5, h6, h7⟩⟩
  · dsimp only at c2
    have e : letM f A x1 = ((-104), f, A) := by unfold letM; rw [if_pos c, if_pos (by rw [p2, c2])]
    rw [e]
    exact ⟨rfl, f, hh, A, rfl, Rel.up ⟨hO, h2, h3, ⟨p1, p2, p3⟩, h5, h6, h7⟩⟩
  · dsimp only at c2
    have e : letM f A x1 = (nI (n + 1), upd f 1 (nI (n + 1)), va_up A 0 (upd (A 0) n x1)) := by
      unfold letM
      rw [if_pos c, if_neg (by rw [p2]; exact fun z => by have := (nI_eq (by omega) (by decide)).mp z; omega), p2, nI_clamp (by omega), nI_add]
    rw [e]
    obtain ⟨q, q1, q2, q3⟩ := inI_nat (by decide) (by decide) c
    refine ⟨rfl, _, hh, _, rfl, hO, h2, h3, ⟨by show n + 1 ≤ 30; omega, rfl, fun j hj => ?_⟩, h5.up (by omega), h6.up, h7⟩
    show upd (A 0) n x1 j = upd pf n x1 j ∧ ∃ c, c < 127 ∧ upd pf n x1 j = nI c
    have hj2 : j < n + 1 := hj
    by_cases w : j = n
    · subst w; rw [pk_us, pk_us]; exact ⟨rfl, q, by omega, q3⟩
    · rw [pk_un w, pk_un w]; exact p3 j (by omega)
theorem p_blank (hR : Rel i S f A) (hX : rX_blank S y S') : Cn l E yX11_blank wsX11_blank (rmL 0 0 0) [.ref (a 32)] (mC E a f hh A ++ tl) 0 0 (MP E a tl i y S') := Cn.mono (c_X11_blank l E a f hh A tl) fun v w h => by
  obtain ⟨rfl, rfl⟩ := h
  obtain ⟨rfl, rfl⟩ := hX
  obtain ⟨hO, h2, h3, ⟨p1, p2, p3⟩, h5, h6, h7⟩ := hR
  exact ⟨by rw [p2], _, hh, A, rfl, hO, h2, h3, ⟨by show 0 ≤ 30; omega, rfl, fun j hj => absurd hj (Nat.not_lt_zero j)⟩, h5.up (by omega), h6.up, h7⟩
theorem p_fault (hR : Rel i S f A) (hX : rX_fault S y S') : Cn l E yX11_fault wsX11_fault (rmL 3 0 0) [.ref (a 32)] (mC E a f hh A ++ tl) 0 0 (MP E a tl i y S') := Cn.mono (c_X11_fault l E a f hh A tl S.2.1 hR.2.2.2.1.2.1 hR.2.2.2.1.1) fun v w h => by
  obtain ⟨rfl, rfl⟩ := h
  obtain ⟨rfl, rfl⟩ := hX
  exact ⟨by rw [ftF_cong (fun j hj => (hR.2.2.2.1.2.2 j hj).1)], f, hh, A, rfl, hR.up⟩
theorem p_about (hR : Rel i S f A) (hX : rX_about S x1 x2 y S') : Cn l E yX11_about wsX11_about (rmL 2 0 0) [.ref (a 32), .int x1, .int x2] (mC E a f hh A ++ tl) 0 0 (MP E a tl i y S') := Cn.mono (c_X11_about l E a f hh A tl S.1 hR.2.1 hR.1.1 x1 x2) fun v w h => by
  obtain ⟨rfl, rfl⟩ := h
  rcases hX with ⟨c, rfl, rfl⟩ | ⟨c, c2, rfl, rfl⟩ | ⟨h, j, c1, rfl, c2, rfl, rfl, rfl⟩
  · exact ⟨by unfold aboM; rw [if_neg (by rw [c]; decide)], f, hh, A, rfl, hR.up⟩
  · exact ⟨by unfold aboM; rw [if_pos c, if_neg (by rw [c2]; decide)], f, hh, A, rfl, hR.up⟩
  · refine ⟨?_, f, hh, A, rfl, hR.up⟩
    obtain ⟨hO, -, hr, -, ⟨-, -, -, -, -, -, -, h8, -⟩, -⟩ := hR
    unfold aboM
    have h6 := hO.1
    rw [if_pos (hsB_t hO.1 c1), if_pos (inI_t (nI_not_lt (by omega) (by omega)) (nI_not_lt (show j ≤ 7 from c2) (by omega))), nI_clamp (by omega), nI_clamp (by omega)]
    obtain ⟨r0, r1, r2, r3⟩ := hr h c1
    obtain ⟨b1, b2, b3, b4, -⟩ := h8 h c1
    rcases (show j = 0 ∨ j = 1 ∨ j = 2 ∨ j = 3 ∨ j = 4 ∨ j = 5 ∨ j = 6 ∨ j = 7 by omega) with rfl | rfl | rfl | rfl | rfl | rfl | rfl | rfl
    · exact congrArg (fun z => some (Value.int z)) r0
    · exact congrArg (fun z => some (Value.int z)) r1
    · exact congrArg (fun z => some (Value.int z)) r2
    · exact congrArg (fun z => some (Value.int z)) r3
    · exact congrArg (fun z => some (Value.int z)) b1.symm
    · exact congrArg (fun z => some (Value.int z)) b2.symm
    · exact congrArg (fun z => some (Value.int z)) b3.symm
    · exact congrArg (fun z => some (Value.int z)) b4.symm
theorem p_as (hR : Rel i S f A) (hX : rX_as S x1 x2 y S') : Cn l E yX11_as wsX11_as (rmL 2 0 0) [.ref (a 32), .int x1, .int x2] (mC E a f hh A ++ tl) 0 0 (MP E a tl i y S') := Cn.mono (c_X11_as l E a f hh A tl S.1 hR.2.1 hR.1.1 hR.2.2.1 hR.1 x1 x2) fun v w h => by
  obtain ⟨rfl, rfl⟩ := h
  rcases hX with ⟨c, rfl, rfl⟩ | ⟨c, c2, rfl, rfl⟩ | ⟨h, j, c1, rfl, c2, rfl, rfl, rfl⟩
  · exact ⟨by unfold asM; rw [if_neg (by rw [c]; decide)], f, hh, A, rfl, hR.up⟩
  · exact ⟨by unfold asM; rw [if_pos c, if_neg (by rw [c2]; decide)], f, hh, A, rfl, hR.up⟩
  · refine ⟨?_, f, hh, A, rfl, hR.up⟩
    have hO := hR.1
    have h6 := hO.1
    have hk := (hO.2 h c1).1
    unfold asM
    rw [if_pos (hsB_t hO.1 c1), if_pos (inI_t (nI_not_lt (by omega) (by omega)) (nI_not_lt (show j ≤ 4 from c2) (by omega))), nI_clamp (by omega)]
    have e : (nI j = nI 0 ∨ nI j = nI (tK S.1 h) ∨ (nI j = nI 3 ∧ tK S.1 h = 4)) ↔ isS (tK S.1 h) j = true := by
      unfold isS
      rw [decide_eq_true_iff, nI_eq (by omega) (by omega), nI_eq (by omega) (by omega), nI_eq (by omega) (by omega)]
    by_cases q : isS (tK S.1 h) j = true
    · rw [if_pos (e.mpr q), if_pos q]
    · rw [if_neg (fun z => q (e.mp z)), if_neg q]
/-- one house's since changes on both sides -/
theorem nRel.since {T : gTown} {bd : Nat} {sn : Int32} {B : Nat → Nat → Int32} {kp km ku : Int32} {r s : Nat → Int32} {p m u sn' : Int32} {h : Nat} {v : Int32} (hh : h < tN T) (hv : v = (-1) ∨ ∃ q, q ≤ bd ∧ v = nI q) (hN : nRel T bd (sn, B, kp, km, ku) r s p m u sn') : nRel T bd (sn, va_up B 2 (upd (B 2) h v), kp, km, ku) (upd r (8 * h + 4) v) s p m u sn' := by
  obtain ⟨h1, h2, h3, h4, h5, h6, h7, h8, h9, h10⟩ := hN
  refine ⟨h1, h2, h3, h4, h5, h6, h7, fun j hj => ?_, fun j hj1 hj2 => ?_, h10⟩
  · obtain ⟨b1, b2, b3, b4, b5⟩ := h8 j hj
    show upd (B 2) h v j = upd r (8 * h + 4) v (8 * j + 4) ∧ B 3 j = upd r (8 * h + 4) v (8 * j + 5) ∧ B 4 j = upd r (8 * h + 4) v (8 * j + 6) ∧ B 5 j = upd r (8 * h + 4) v (8 * j + 7) ∧ (upd (B 2) h v j = (-1) ∨ ∃ q, q ≤ bd ∧ upd (B 2) h v j = nI q)
    rw [pk_un (show 8 * j + 5 ≠ 8 * h + 4 by omega), pk_un (show 8 * j + 6 ≠ 8 * h + 4 by omega), pk_un (show 8 * j + 7 ≠ 8 * h + 4 by omega)]
    by_cases w : j = h
    · subst w; rw [pk_us, pk_us]; exact ⟨rfl, b2, b3, b4, hv⟩
    · rw [pk_un w, pk_un (by omega)]; exact ⟨b1, b2, b3, b4, b5⟩
  · show upd (B 2) h v j = (-1) ∧ B 4 j = nI 0 ∧ B 5 j = nI 0
    rw [pk_un (by omega)]; exact h9 j hj1 hj2
theorem rows_up {r : Nat → Int32} {T : gTown} {k : Nat} {v : Int32} (hk : 4 ≤ k % 8) (h : rowsOf r T) : rowsOf (upd r k v) T := fun j hj => by
  rw [pk_un (by omega), pk_un (by omega), pk_un (by omega), pk_un (by omega)]
  exact h j hj
theorem upd_eta (f : Nat → Int32) (k : Nat) : upd f k (f k) = f := funext fun j => by
  by_cases h : j = k
  · subst h; exact pk_us
  · exact pk_un h
theorem p_shut (hR : Rel i S f A) (hX : rX_shut S x1 x2 y S') : Cn l E yX11_shut wsX11_shut (rmL 2 0 0) [.ref (a 32), .int x1, .int x2] (mC E a f hh A ++ tl) 0 0 (MP E a tl i y S') := Cn.mono (c_X11_shut l E a f hh A tl S.1 hR.2.1 hR.1.1 x1 x2) fun v w h => by
  obtain ⟨T, n, pf, g, ⟨sn, B, kp, km, ku⟩, K, U, R⟩ := S
  obtain ⟨rfl, rfl⟩ := h
  obtain ⟨hO, h2, h3, h4, h5, h6, h7⟩ := hR
  dsimp only at h5 hO h3
  have h66 := hO.1
  have ans : ∀ h, h < tN T → hsB (tN T) (nI h) = true ∧ (nI h).toNatClampNeg = h := fun h hh => ⟨hsB_t hO.1 hh, nI_clamp (by omega)⟩
  have oB : ∀ h, h < tN T → outB (sF (A 7)) h = outB (B 2) h := fun h hh => by
    unfold outB sF
    rw [← (h5.2.2.2.2.2.2.2.1 h hh).1]
  rcases hX with ⟨c, rfl, rfl⟩ | ⟨h, c1, rfl, c2, rfl, rfl⟩ | ⟨h, c1, rfl, c2, c3, rfl, rfl⟩ | ⟨h, c1, rfl, c2, c3, rfl, rfl⟩
  · have e : shuM T f A x1 x2 = ((-101), A) := by unfold shuM; rw [if_neg (by rw [c]; decide)]
    rw [e]
    exact ⟨rfl, f, hh, A, rfl, Rel.up ⟨hO, h2, h3, h4, h5, h6, h7⟩⟩
  · have e : shuM T f A (nI h) x2 = (bI (outB (B 2) h), va_up A 7 (upd (A 7) (8 * h + 4) (-1))) := by unfold shuM; rw [if_pos (ans h c1).1, (ans h c1).2, if_pos c2, oB h c1]
    rw [e]
    exact ⟨rfl, f, hh, _, rfl, hO, h2, rows_up (by omega) h3, h4, (h5.since c1 (Or.inl rfl)).up (by omega), h6.up, h7⟩
  · have e : shuM T f A (nI h) x2 = (bI (outB (B 2) h), va_up A 7 (upd (A 7) (8 * h + 4) (A 7 (8 * h + 4)))) := by unfold shuM; rw [if_pos (ans h c1).1, (ans h c1).2, if_neg c2, oB h c1, if_pos c3]
    rw [e, upd_eta, va_up_eta]
    exact ⟨rfl, f, hh, A, rfl, Rel.up ⟨hO, h2, h3, h4, h5, h6, h7⟩⟩
  · have e : shuM T f A (nI h) x2 = (bI (outB (B 2) h), va_up A 7 (upd (A 7) (8 * h + 4) km)) := by
      have c3' : outB (B 2) h = false := c3
      unfold shuM
      rw [if_pos (ans h c1).1, (ans h c1).2, if_neg c2, oB h c1, if_neg (by rw [c3']; decide), show km = f 5 from h5.2.1]
    rw [e]
    obtain ⟨mm, uu, m1, -, m3, -⟩ := h5.2.2.2.2.2.1
    exact ⟨rfl, f, hh, _, rfl, hO, h2, rows_up (by omega) h3, h4, (h5.since c1 (Or.inr ⟨mm, m3, (show km = f 5 from h5.2.1).trans m1⟩)).up (by omega), h6.up, h7⟩
theorem p_lay (hR : Rel i S f A) (hX : rX_lay S x1 y S') : Cn l E yX11_lay wsX11_lay (rmL 1 0 0) [.ref (a 32), .int x1] (mC E a f hh A ++ tl) 0 0 (MP E a tl i y S') := Cn.mono (c_X11_lay l E a f hh A tl S.1 hR.2.1 hR.1.1 x1) fun v w h => by
  obtain ⟨T, n, pf, g, ⟨sn, B, kp, km, ku⟩, K, U, R⟩ := S
  obtain ⟨rfl, rfl⟩ := h
  rcases hX with ⟨c, rfl, rfl⟩ | ⟨c, c2, rfl, rfl⟩ | ⟨c, c2, rfl, rfl⟩
  · have e : layM T f x1 = ((-102), f) := by unfold layM; rw [if_neg (by rw [c]; decide)]
    rw [e]; exact ⟨rfl, f, hh, A, rfl, hR.up⟩
  · have e : layM T f x1 = ((-103), f) := by unfold layM; rw [if_pos c, if_pos c2]
    rw [e]; exact ⟨rfl, f, hh, A, rfl, hR.up⟩
  · have e : layM T f x1 = (f 3, upd (upd f 3 x1) 4 (nI 0)) := by unfold layM; rw [if_pos c, if_neg c2]
    rw [e]
    obtain ⟨hO, h2, h3, h4, ⟨a1, a2, a3, a4, a5, ⟨mm, uu, m1, m2, m3, m4⟩, a7, a8, a9, a10⟩, h6, h7⟩ := hR
    obtain ⟨q, -, q2, q3⟩ := inI_nat (by decide) (by decide) c
    refine ⟨congrArg (fun z => some (Value.int z)) a1.symm, _, hh, A, rfl, hO, h2, h3, h4, nRel.up (by omega) ⟨rfl, a2, rfl, a4, ⟨q, q2, q3⟩, ⟨mm, 0, m1, rfl, m3, by omega⟩, a7, a8, a9, a10⟩, h6.up, h7⟩
theorem p_pass (hi : i ≤ 2048) (hR : Rel i S f A) (hX : rX_pass S x1 y S') : Cn l E yX11_pass wsX11_pass (rmL 1 0 0) [.ref (a 32), .int x1] (mC E a f hh A ++ tl) 0 0 (MP E a tl i y S') := Cn.mono (c_X11_pass l E a f hh A tl S.1 hR.2.1 hR.1.1 x1) fun v w h => by
  obtain ⟨T, n, pf, g, ⟨sn, B, kp, km, ku⟩, K, U, R⟩ := S
  obtain ⟨rfl, rfl⟩ := h
  have e5 : km = f 5 := hR.2.2.2.2.1.2.1
  rcases hX with ⟨c, rfl, rfl⟩ | ⟨c, c2, rfl, rfl⟩ | ⟨c, c2, c3, rfl, rfl⟩
  · have e : pasM T f x1 = ((-102), f) := by unfold pasM; rw [if_neg (by rw [c]; decide)]
    rw [e]; exact ⟨rfl, f, hh, A, rfl, hR.up⟩
  · have e : pasM T f x1 = ((-103), f) := by unfold pasM; rw [if_pos c, if_pos (by rw [← e5]; exact c2)]
    rw [e]; exact ⟨rfl, f, hh, A, rfl, hR.up⟩
  · dsimp only at c3
    have e : pasM T f x1 = (km + x1, upd f 5 (km + x1)) := by unfold pasM; rw [if_pos c, if_neg (by rw [← e5]; exact fun z => z.elim c2 (fun w => w c3)), ← e5]
    rw [e]
    obtain ⟨hO, h2, h3, h4, ⟨a1, a2, a3, a4, a5, ⟨mm, uu, m1, m2, m3, m4⟩, a7, a8, a9, a10⟩, h6, h7⟩ := hR
    obtain ⟨q, q1, q2, q3⟩ := inI_nat (by decide) (by decide) c
    have e6 : km + x1 = nI (mm + q) := by rw [e5, m1, q3, nI_add]
    have e7 : mm + q ≤ 999 := (nI_leI (by omega) (by omega)).mp (by rw [← e6]; exact c3)
    refine ⟨rfl, _, hh, A, rfl, hO, h2, h3, h4, nRel.up (bd := 1000 + 4 * i) (by omega) ⟨a1, rfl, a3, a4, a5, ⟨mm + q, uu, e6, m2, by omega, by omega⟩, a7, a8, a9, a10⟩, h6.up, h7⟩
theorem p_forget (hR : Rel i S f A) (hX : rX_forget S y S') : Cn l E yX11_forget wsX11_forget (rmL 0 0 0) [.ref (a 32)] (mC E a f hh A ++ tl) 0 0 (MP E a tl i y S') := Cn.mono (c_X11_forget l E a f hh A tl) fun v w h => by
  obtain ⟨rfl, rfl⟩ := h
  obtain ⟨rfl, rfl⟩ := hX
  obtain ⟨hO, h2, h3, h4, ⟨a1, a2, a3, a4, a5, a6, a7, a8, a9, a10⟩, h6, h7⟩ := hR
  exact ⟨by rw [a4], _, hh, A, rfl, hO, h2, h3, h4, nRel.up (by omega) ⟨a1, a2, a3, rfl, a5, a6, ⟨0, fun _ => 0, by omega, rfl, fun j hj => absurd hj (Nat.not_lt_zero j)⟩, a8, a9, a10⟩, h6.up, h7⟩
end TIE
