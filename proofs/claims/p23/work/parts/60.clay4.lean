section
variable {a S u k : Nat} {q ri tr ft : Nat → Int32} {r r' : Row} {m : xM}
theorem RR.c1 (hR : RR S q ri tr ft r) (hI : RI k r) (hu : r 50 = nI u) (huS : u < S) {l : Nat} (hl : l < 1000) : cO1 q (nI l) (pA q ft (q 3 - q 10)) = lo (nI l - mA r S (S - 1 - u) - ln r (S - 1 - u)) (r 0) := by
  have hS := hR.1
  have e : q 3 - q 10 = nI (S - u) := by rw [hR.i3, hR.i10, hu]; exact pk_sub (by omega)
  unfold cO1
  rw [e, hR.hA (by omega), hR.i0, ← cut1 hI hR.2.1 hS (show S - 1 - u < S by omega) hl, show S - 1 - u + 1 = S - u by omega]
theorem CL1 (hR : RR S q ri tr ft r) (hI : RI k r) (hk : k < 1000) (hl : r 45 + r 50 < r 3) (hu : r 50 = nI u) (huS : u < S) : cL1 q ri tr ft = oI (lay1 r S (S - 1 - u)) := by
  have hS := hR.1
  have hj : S - 1 - u < S := by omega
  rw [lay1_alt (hI.z1 hR.2.1 hS hj hk)]
  have hO : ∃ O, r 1 = nI O ∧ O ≤ 400 := by
    obtain ⟨S', u0, u1, p0, p1, R, O, b0, b1, l0, l1, sl, ⟨e1, e2, e3, e4, e5, e6, e7, -⟩, ⟨f1, f2, f3, f4, f5, f6, f7, f8, -⟩, g⟩ := hI
    exact ⟨O, e7, f8⟩
  have hL : ∃ O, r 51 = nI O ∧ O ≤ 400 := by
    obtain ⟨S', u0, u1, p0, p1, R, O, b0, b1, l0, l1, sl, ⟨e1, e2, e3, e4, e5, e6, e7, e8, e9, e10, e11, e12⟩, ⟨f1, f2, f3, f4, f5, f6, f7, f8, f9, f10, f11, f12, f13, f14, f15⟩, g⟩ := hI
    exact ⟨l1, e11, by omega⟩
  obtain ⟨O, eO, hO⟩ := hO
  obtain ⟨l, el, hL⟩ := hL
  unfold cL1
  rw [hR.n1 hl hu huS, if_neg (nI_n6 (by omega)), hR.i11, hR.i1, el, eO, hR.c1 hI hu huS (by omega), hR.c1 hI hu huS (by omega), hR.hl hj, ← el, ← eO, show lo (r 51 - mA r S (S - 1 - u) - ln r (S - 1 - u)) (r 0) = cN1 r S (S - 1 - u) from rfl, show lo (r 1 - mA r S (S - 1 - u) - ln r (S - 1 - u)) (r 0) = cR1 r S (S - 1 - u) from rfl]
  by_cases hc : r 51 < cN1 r S (S - 1 - u) + ln r (S - 1 - u)
  · rw [if_pos hc, if_pos hc]
    by_cases hd : r 1 < cR1 r S (S - 1 - u) + ln r (S - 1 - u)
    · rw [if_pos hd, if_pos hd]; rfl
    · rw [if_neg hd, if_neg hd]; rfl
  · rw [if_neg hc, if_neg hc]; rfl
theorem LAY0 (hA : HA m a q ri tr ft) (hR : RR S q ri tr ft r) (hI : RI k r) (hk : k < 1000) (hl : r 45 + r 50 < r 3) (hu : r 45 = nI u) (huS : u < S) (hr : lay0 r u = some r') : ∃ q', HA (mu m (a + 5) (.inr (0, lN0 q ri tr ft))) a q' ri tr ft ∧ RR S q' ri tr ft r' ∧ q' 5 = nI (u + 1) := by
  have hS := hR.1
  rw [lay0_alt (hI.z0 hR.2.1 hS huS hk)] at hr
  have e5 : r 45 + 1 = nI (u + 1) := by rw [hu]; exact nI_1 u
  unfold lN0
  rw [hR.n0 hl hu, hR.c0 hu huS, hR.c0 hu huS, hR.hl huS, hR.i6, hR.i1, hR.i5, hR.i7, hR.i8, show lo (mB r u - (r 1 - r 46)) (r 0) = cN0 r u from rfl, show lo (mB r u - (r 1 - r 1)) (r 0) = cR0 r u from rfl]
  by_cases hc : r 46 < cN0 r u + ln r u
  · rw [if_pos hc] at hr ⊢
    by_cases hd : r 1 < cR0 r u + ln r u
    · rw [if_pos hd] at hr; cases hr
    · rw [if_neg hd] at hr
      cases hr
      rw [← Int32.sub_sub, Int32.add_assoc]
      exact ⟨_, hA.w5 (q' := upd (upd (upd (upd q 7 (r 47 + 1)) 6 (r 1 - cR0 r u - ln r u)) 8 (r 48 + (r 46 + cR0 r u))) 5 (r 45 + 1)) (fun i hi => by rw [upd_n _ _ (by omega), upd_n _ _ (by omega), upd_n _ _ (by omega), upd_n _ _ (by omega)]), (((hR.up (i := 7) _ (by decide) (by decide)).up (i := 6) _ (by decide) (by decide)).up (i := 8) _ (by decide) (by decide)).up (i := 5) _ (by decide) (by decide), by rw [upd_s]; exact e5⟩
  · rw [if_neg hc] at hr ⊢
    cases hr
    rw [← Int32.sub_sub, ← hR.i7]
    exact ⟨_, hA.w5 (q' := upd (upd (upd q 6 (r 46 - cN0 r u - ln r u)) 8 (r 48 + cN0 r u)) 5 (r 45 + 1)) (fun i hi => by rw [upd_n _ _ (by omega), upd_n _ _ (by omega), upd_n _ _ (by omega)]), ((hR.up (i := 6) _ (by decide) (by decide)).up (i := 8) _ (by decide) (by decide)).up (i := 5) _ (by decide) (by decide), by rw [upd_s]; exact e5⟩
theorem LAY1 (hA : HA m a q ri tr ft) (hR : RR S q ri tr ft r) (hI : RI k r) (hk : k < 1000) (hl : r 45 + r 50 < r 3) (hu : r 50 = nI u) (huS : u < S) (hr : lay1 r S (S - 1 - u) = some r') : ∃ q', HA (mu m (a + 6) (.inr (0, lN1 q ri tr ft))) a q' ri tr ft ∧ RR S q' ri tr ft r' ∧ q' 10 = nI (u + 1) ∧ q' 5 = q 5 := by
  have hS := hR.1
  have hj : S - 1 - u < S := by omega
  rw [lay1_alt (hI.z1 hR.2.1 hS hj hk)] at hr
  have hO : ∃ O, r 1 = nI O ∧ O ≤ 400 := by
    obtain ⟨S', u0, u1, p0, p1, R, O, b0, b1, l0, l1, sl, ⟨e1, e2, e3, e4, e5, e6, e7, -⟩, ⟨f1, f2, f3, f4, f5, f6, f7, f8, -⟩, g⟩ := hI
    exact ⟨O, e7, f8⟩
  have hL : ∃ O, r 51 = nI O ∧ O ≤ 400 := by
    obtain ⟨S', u0, u1, p0, p1, R, O, b0, b1, l0, l1, sl, ⟨e1, e2, e3, e4, e5, e6, e7, e8, e9, e10, e11, e12⟩, ⟨f1, f2, f3, f4, f5, f6, f7, f8, f9, f10, f11, f12, f13, f14, f15⟩, g⟩ := hI
    exact ⟨l1, e11, by omega⟩
  obtain ⟨O, eO, hO⟩ := hO
  obtain ⟨l, el, hL⟩ := hL
  have e5 : r 50 + 1 = nI (u + 1) := by rw [hu]; exact nI_1 u
  unfold lN1
  rw [hR.n1 hl hu huS, hR.i11, hR.i1, el, eO, hR.c1 hI hu huS (by omega), hR.c1 hI hu huS (by omega), hR.hl hj, ← el, ← eO, show lo (r 51 - mA r S (S - 1 - u) - ln r (S - 1 - u)) (r 0) = cN1 r S (S - 1 - u) from rfl, show lo (r 1 - mA r S (S - 1 - u) - ln r (S - 1 - u)) (r 0) = cR1 r S (S - 1 - u) from rfl]
  by_cases hc : r 51 < cN1 r S (S - 1 - u) + ln r (S - 1 - u)
  · rw [if_pos hc] at hr ⊢
    by_cases hd : r 1 < cR1 r S (S - 1 - u) + ln r (S - 1 - u)
    · rw [if_pos hd] at hr; cases hr
    · rw [if_neg hd] at hr
      cases hr
      rw [← Int32.sub_sub, Int32.add_assoc, hR.i10, hR.i12, hR.i13]
      exact ⟨_, hA.w6 (q' := upd (upd (upd (upd q 12 (r 52 + 1)) 11 (r 1 - cR1 r S (S - 1 - u) - ln r (S - 1 - u))) 13 (r 53 + (r 51 + cR1 r S (S - 1 - u)))) 10 (r 50 + 1)) (fun i hi => by rw [upd_n _ _ (by omega), upd_n _ _ (by omega), upd_n _ _ (by omega), upd_n _ _ (by omega)]), (((hR.up (i := 12) _ (by decide) (by decide)).up (i := 11) _ (by decide) (by decide)).up (i := 13) _ (by decide) (by decide)).up (i := 10) _ (by decide) (by decide), by rw [upd_s]; exact e5, rfl⟩
  · rw [if_neg hc] at hr ⊢
    cases hr
    rw [← Int32.sub_sub, hR.i10, hR.i13]
    exact ⟨_, hA.w6 (q' := upd (upd (upd q 11 (r 51 - cN1 r S (S - 1 - u) - ln r (S - 1 - u))) 13 (r 53 + cN1 r S (S - 1 - u))) 10 (r 50 + 1)) (fun i hi => by rw [upd_n _ _ (by omega), upd_n _ _ (by omega), upd_n _ _ (by omega)]), ((hR.up (i := 11) _ (by decide) (by decide)).up (i := 13) _ (by decide) (by decide)).up (i := 10) _ (by decide) (by decide), by rw [upd_s]; exact e5, rfl⟩
end
