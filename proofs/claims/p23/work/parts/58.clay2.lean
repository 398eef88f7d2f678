theorem RI.lt {k : Nat} {r : Row} (h : RI k r) (hl : ¬ r 45 + r 50 = r 3) : r 45 + r 50 < r 3 := by
  obtain ⟨S', u0, u1, p0, p1, R, O, b0, b1, l0, l1, sl, ⟨e1, e2, e3, -⟩, ⟨f1, f2, -⟩, -⟩ := h
  rw [e1, e2, e3, show nI u0 + nI u1 = nI (u0 + u1) from nI_add _ _] at hl ⊢
  have : ¬ u0 + u1 = S' := fun q => hl (by rw [q])
  exact nI_lt (by omega) (by omega)
section
variable {S u k : Nat} {q ri tr ft : Nat → Int32} {r : Row}
theorem RR.n0 (hR : RR S q ri tr ft r) (hl : r 45 + r 50 < r 3) (hu : r 45 = nI u) : nS0 q = nI u := by
  unfold nS0
  rw [hR.i5, hR.i10, hR.i3, ← hR.2.1, if_pos hl, hu]
theorem RR.n1 (hR : RR S q ri tr ft r) (hl : r 45 + r 50 < r 3) (hu : r 50 = nI u) (huS : u < S) : nS1 q = nI (S - 1 - u) := by
  unfold nS1
  have e : nI S - nI u - 1 = nI (S - 1 - u) := by
    rw [pk_sub (by omega), show (1 : Int32) = nI 1 from rfl, pk_sub (by omega)]
    congr 1
    omega
  rw [hR.i5, hR.i10, hR.i3, ← hR.2.1, if_pos hl, hR.2.1, hu, e]
theorem RR.c0 (hR : RR S q ri tr ft r) (hu : r 45 = nI u) (huS : u < S) (l : Int32) : cO0 q l (pB q ft (q 5)) = lo (mB r u - (r 1 - l)) (r 0) := by
  unfold cO0
  rw [hR.i5, hu, hR.hB (by omega), hR.i1, hR.i0]
theorem mA_back {r : Row} {S j : Nat} (hj : j < S) : lns r j (S - j) = ln r j + lns r (j + 1) (S - (j + 1)) := by
  rw [show S - j = (S - (j + 1)) + 1 by omega, lns_front]
theorem CL0 (hR : RR S q ri tr ft r) (hI : RI k r) (hk : k < 1000) (hl : r 45 + r 50 < r 3) (hu : r 45 = nI u) (huS : u < S) : cL0 q ri tr ft = oI (lay0 r u) := by
  have hS := hR.1
  rw [lay0_alt (hI.z0 hR.2.1 hS huS hk)]
  unfold cL0
  rw [hR.n0 hl hu, if_neg (nI_n6 (by omega)), hR.c0 hu huS, hR.c0 hu huS, hR.hl huS, hR.i6, hR.i1, show lo (mB r u - (r 1 - r 46)) (r 0) = cN0 r u from rfl, show lo (mB r u - (r 1 - r 1)) (r 0) = cR0 r u from rfl]
  by_cases hc : r 46 < cN0 r u + ln r u
  · rw [if_pos hc, if_pos hc]
    by_cases hd : r 1 < cR0 r u + ln r u
    · rw [if_pos hd, if_pos hd]; rfl
    · rw [if_neg hd, if_neg hd]; rfl
  · rw [if_neg hc, if_neg hc]; rfl
end
