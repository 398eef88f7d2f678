section
variable {k k' S u : Nat} {r r' : Row}
theorem RI.mono (h : RI k r) (hk : k ≤ k') : RI k' r := by
  obtain ⟨S', u0, u1, p0, p1, R, O, b0, b1, l0, l1, sl, ⟨e1, e2, e3, e4, e5, e6, e7, e8, e9, e10, e11, e12⟩, ⟨f1, f2, f3, f4, f5, f6, f7, f8, f9, f10, f11, f12, f13, f14, f15⟩, g⟩ := h
  exact ⟨S', u0, u1, p0, p1, R, O, b0, b1, l0, l1, sl, ⟨e1, e2, e3, e4, e5, e6, e7, e8, e9, e10, e11, e12⟩, ⟨f1, f2, by omega, by omega, f5, f6, f7, f8, f9, f10, f11, f12, f13, f14, f15⟩, g⟩
theorem RI.cg (h : RI k r) (e : REq r r') : RI k r' := by
  obtain ⟨S', u0, u1, p0, p1, R, O, b0, b1, l0, l1, sl, ⟨e1, e2, e3, e4, e5, e6, e7, e8, e9, e10, e11, e12⟩, ⟨f1, f2, f3, f4, f5, f6, f7, f8, f9, f10, f11, f12, f13, f14, f15⟩, g⟩ := h
  refine ⟨S', u0, u1, p0, p1, R, O, b0, b1, l0, l1, sl, ⟨?_, ?_, ?_, ?_, ?_, ?_, ?_, ?_, ?_, ?_, ?_, ?_⟩, ⟨f1, f2, f3, f4, f5, f6, f7, f8, f9, f10, f11, f12, f13, f14, f15⟩, fun j hj => ?_⟩
  · rw [← e _ (by omega)]; exact e1
  · rw [← e _ (by omega)]; exact e2
  · rw [← e _ (by omega)]; exact e3
  · rw [← e _ (by omega)]; exact e4
  · rw [← e _ (by omega)]; exact e5
  · rw [← e _ (by omega)]; exact e6
  · rw [← e _ (by omega)]; exact e7
  · rw [← e _ (by omega)]; exact e8
  · rw [← e _ (by omega)]; exact e9
  · rw [← e _ (by omega)]; exact e10
  · rw [← e _ (by omega)]; exact e11
  · rw [← e _ (by omega)]; exact e12
  · obtain ⟨x, y, q⟩ := g j hj
    rw [← e _ (by omega), ← e _ (by omega)]
    exact ⟨x, y, q⟩
/-- a crew's numbers change -/
theorem RI.w0 {n p l : Nat} (h : RI k r) (hkk : k ≤ k') (e45 : r' 45 = nI n) (hn : ∀ S u1 : Nat, S ≤ 20 → r 3 = nI S → r 50 = nI u1 → u1 ≤ S → n + u1 ≤ S) (e47 : r' 47 = nI p) (hp : p ≤ k') (e46 : r' 46 = nI l) (hl : ∀ O : Nat, O ≤ 400 → r 1 = nI O → l ≤ O) (hz : p = 0 → l = 0) (keep : ∀ j, (j < 45 ∨ 48 < j) → r' j = r j) : RI k' r' := by
  obtain ⟨S', u0, u1, p0, p1, R, O, b0, b1, l0, l1, sl, ⟨e1, e2, e3, e4, e5, e6, e7, e8, e9, e10, e11, e12⟩, ⟨f1, f2, f3, f4, f5, f6, f7, f8, f9, f10, f11, f12, f13, f14, f15⟩, g⟩ := h
  exact ⟨S', n, u1, p, p1, R, O, b0, b1, l, l1, sl, ⟨(keep _ (by omega)).trans e1, e45, (keep _ (by omega)).trans e3, e47, (keep _ (by omega)).trans e5, (keep _ (by omega)).trans e6, (keep _ (by omega)).trans e7, (keep _ (by omega)).trans e8, (keep _ (by omega)).trans e9, e46, (keep _ (by omega)).trans e11, (keep _ (by omega)).trans e12⟩, ⟨f1, hn S' u1 f1 e1 e3 (by omega), hp, by omega, f5, f6, f7, f8, f9, f10, hl O f8 e7, f12, f13, hz, f15⟩, fun j hj => by
    obtain ⟨x, y, q⟩ := g j hj
    rw [keep _ (by omega), keep _ (by omega)]
    exact ⟨x, y, q⟩⟩
theorem RI.w1 {n p l : Nat} (h : RI k r) (hkk : k ≤ k') (e50 : r' 50 = nI n) (hn : ∀ S u0 : Nat, S ≤ 20 → r 3 = nI S → r 45 = nI u0 → u0 ≤ S → u0 + n ≤ S) (e52 : r' 52 = nI p) (hp : p ≤ k') (e51 : r' 51 = nI l) (hl : ∀ O : Nat, O ≤ 400 → r 1 = nI O → l ≤ O) (hz : p = 0 → l = 0) (keep : ∀ j, (j < 50 ∨ 53 < j) → r' j = r j) : RI k' r' := by
  obtain ⟨S', u0, u1, p0, p1, R, O, b0, b1, l0, l1, sl, ⟨e1, e2, e3, e4, e5, e6, e7, e8, e9, e10, e11, e12⟩, ⟨f1, f2, f3, f4, f5, f6, f7, f8, f9, f10, f11, f12, f13, f14, f15⟩, g⟩ := h
  exact ⟨S', u0, n, p0, p, R, O, b0, b1, l0, l, sl, ⟨(keep _ (by omega)).trans e1, (keep _ (by omega)).trans e2, e50, (keep _ (by omega)).trans e4, e52, (keep _ (by omega)).trans e6, (keep _ (by omega)).trans e7, (keep _ (by omega)).trans e8, (keep _ (by omega)).trans e9, (keep _ (by omega)).trans e10, e51, (keep _ (by omega)).trans e12⟩, ⟨f1, hn S' u0 f1 e1 e2 (by omega), by omega, hp, f5, f6, f7, f8, f9, f10, f11, hl O f8 e7, f13, f14, hz⟩, fun j hj => by
    obtain ⟨x, y, q⟩ := g j hj
    rw [keep _ (by omega), keep _ (by omega)]
    exact ⟨x, y, q⟩⟩
theorem nI_inj {x y : Nat} (hx : x < 2 ^ 31) (hy : y < 2 ^ 31) (h : nI x = nI y) : x = y := (nI_eq hx hy).mp h
theorem RI.room (h : RI k r) (hl : r 45 + r 50 < r 3) : ∃ S u0 u1 : Nat, r 3 = nI S ∧ r 45 = nI u0 ∧ r 50 = nI u1 ∧ S ≤ 20 ∧ u0 + u1 < S := by
  obtain ⟨S', u0, u1, p0, p1, R, O, b0, b1, l0, l1, sl, ⟨e1, e2, e3, e4, e5, e6, e7, e8, e9, e10, e11, e12⟩, ⟨f1, f2, f3, f4, f5, f6, f7, f8, f9, f10, f11, f12, f13, f14, f15⟩, g⟩ := h
  refine ⟨S', u0, u1, e1, e2, e3, f1, ?_⟩
  rw [e1, e2, e3, show nI u0 + nI u1 = nI (u0 + u1) from nI_add _ _, nI_ltI (by omega) (by omega)] at hl
  exact hl
/-- what is left behind a step -/
theorem left_I {l c n : Nat} {x y z : Int32} (hl : l < 1000) (hc : c < 1000) (hn : n < 1000) (e1 : x = nI l) (e2 : y = nI c) (e3 : z = nI n) (h : ¬ x < y + z) : x - y - z = nI (l - c - n) ∧ c + n ≤ l := by
  rw [e1, e2, e3, show nI c + nI n = nI (c + n) from nI_add _ _, nI_ltI (by omega) (by omega)] at h
  have hcn : c + n ≤ l := by omega
  exact ⟨by rw [e1, e2, e3, pk_sub (by omega), pk_sub (by omega)], hcn⟩
theorem RI.la0 (h : RI k r) (h3 : r 3 = nI S) (hS : S ≤ 20) (hu : u < S) (hl : r 45 + r 50 < r 3) (hr : lay0 r u = some r') : RI (k + 1) r' := by
  obtain ⟨n, en, n1, n2⟩ := h.len h3 hS hu
  obtain ⟨S0, w0, w1, t3, t45, t50, tS, tw⟩ := h.room hl
  have hn : ∀ S u1 : Nat, S ≤ 20 → r 3 = nI S → r 50 = nI u1 → u1 ≤ S → w0 + 1 + u1 ≤ S := fun S u1 q1 q2 q3 q4 => by
    have a1 := nI_inj (by omega) (by omega) (q2.symm.trans t3)
    have a2 := nI_inj (by omega) (by omega) (q3.symm.trans t50)
    omega
  have h' := h
  have keep : ∀ j, (j < 45 ∨ 48 < j) → r' j = r j := fun j hj => lay0_keep hr hj
  obtain ⟨S', u0, u1, p0, p1, R, O, b0, b1, l0, l1, sl, ⟨e1, e2, e3, e4, e5, e6, e7, e8, e9, e10, e11, e12⟩, ⟨f1, f2, f3, f4, f5, f6, f7, f8, f9, f10, f11, f12, f13, f14, f15⟩, g⟩ := h
  unfold lay0 at hr
  by_cases ca : r 47 = 0 ∨ r 46 < cN0 r u + ln r u
  · rw [if_pos ca] at hr
    by_cases cb : r 1 < cR0 r u + ln r u
    · rw [if_pos cb] at hr; cases hr
    · rw [if_neg cb] at hr
      cases hr
      obtain ⟨c, c1, c2⟩ := lo_nat (mB r u - (r 1 - r 1)) (R := R) (by omega) (by omega)
      have ec : cR0 r u = nI c := by unfold cR0; rw [e6]; exact c2
      obtain ⟨g1, g2⟩ := left_I (by omega) (by omega) (by omega) e7 ec en cb
      refine h'.w0 (n := w0 + 1) (p := p0 + 1) (l := O - c - n) (Nat.le_succ k) (by rw [upd_s, t45]; exact nI_1 w0) hn (by rw [upd_n _ _ (by omega), upd_n _ _ (by omega), upd_n _ _ (by omega), upd_s, e4]; exact nI_1 p0) (by omega) (by rw [upd_n _ _ (by omega), upd_n _ _ (by omega), upd_s, g1]) (fun O2 q1 q2 => ?_) (fun q => by omega) keep
      have := nI_inj (by omega) (by omega) (q2.symm.trans e7)
      omega
  · rw [if_neg ca] at hr
    cases hr
    obtain ⟨c, c1, c2⟩ := lo_nat (mB r u - (r 1 - r 46)) (R := R) (by omega) (by omega)
    have ec : cN0 r u = nI c := by unfold cN0; rw [e6]; exact c2
    obtain ⟨g1, g2⟩ := left_I (by omega) (by omega) (by omega) e10 ec en (fun q => ca (Or.inr q))
    refine h'.w0 (n := w0 + 1) (p := p0) (l := l0 - c - n) (Nat.le_succ k) (by rw [upd_s, t45]; exact nI_1 w0) hn (by rw [upd_n _ _ (by omega), upd_n _ _ (by omega), upd_n _ _ (by omega), e4]) (by omega) (by rw [upd_n _ _ (by omega), upd_n _ _ (by omega), upd_s, g1]) (fun O2 q1 q2 => ?_) (fun q => by have := f14 q; omega) keep
    have := nI_inj (by omega) (by omega) (q2.symm.trans e7)
    omega
theorem RI.la1 (h : RI k r) (h3 : r 3 = nI S) (hS : S ≤ 20) (hu : u < S) (hl : r 45 + r 50 < r 3) (hr : lay1 r S u = some r') : RI (k + 1) r' := by
  obtain ⟨n, en, n1, n2⟩ := h.len h3 hS hu
  obtain ⟨S0, w0, w1, t3, t45, t50, tS, tw⟩ := h.room hl
  have hn : ∀ S u0 : Nat, S ≤ 20 → r 3 = nI S → r 45 = nI u0 → u0 ≤ S → u0 + (w1 + 1) ≤ S := fun S u0 q1 q2 q3 q4 => by
    have a1 := nI_inj (by omega) (by omega) (q2.symm.trans t3)
    have a2 := nI_inj (by omega) (by omega) (q3.symm.trans t45)
    omega
  have h' := h
  have keep : ∀ j, (j < 50 ∨ 53 < j) → r' j = r j := fun j hj => lay1_keep hr hj
  obtain ⟨S', u0, u1, p0, p1, R, O, b0, b1, l0, l1, sl, ⟨e1, e2, e3, e4, e5, e6, e7, e8, e9, e10, e11, e12⟩, ⟨f1, f2, f3, f4, f5, f6, f7, f8, f9, f10, f11, f12, f13, f14, f15⟩, g⟩ := h
  unfold lay1 at hr
  by_cases ca : r 52 = 0 ∨ r 51 < cN1 r S u + ln r u
  · rw [if_pos ca] at hr
    by_cases cb : r 1 < cR1 r S u + ln r u
    · rw [if_pos cb] at hr; cases hr
    · rw [if_neg cb] at hr
      cases hr
      obtain ⟨c, c1, c2⟩ := lo_nat (r 1 - mA r S u - ln r u) (R := R) (by omega) (by omega)
      have ec : cR1 r S u = nI c := by unfold cR1; rw [e6]; exact c2
      obtain ⟨g1, g2⟩ := left_I (by omega) (by omega) (by omega) e7 ec en cb
      refine h'.w1 (n := w1 + 1) (p := p1 + 1) (l := O - c - n) (Nat.le_succ k) (by rw [upd_s, t50]; exact nI_1 w1) hn (by rw [upd_n _ _ (by omega), upd_n _ _ (by omega), upd_n _ _ (by omega), upd_s, e5]; exact nI_1 p1) (by omega) (by rw [upd_n _ _ (by omega), upd_n _ _ (by omega), upd_s, g1]) (fun O2 q1 q2 => ?_) (fun q => by omega) keep
      have := nI_inj (by omega) (by omega) (q2.symm.trans e7)
      omega
  · rw [if_neg ca] at hr
    cases hr
    obtain ⟨c, c1, c2⟩ := lo_nat (r 51 - mA r S u - ln r u) (R := R) (by omega) (by omega)
    have ec : cN1 r S u = nI c := by unfold cN1; rw [e6]; exact c2
    obtain ⟨g1, g2⟩ := left_I (by omega) (by omega) (by omega) e11 ec en (fun q => ca (Or.inr q))
    refine h'.w1 (n := w1 + 1) (p := p1) (l := l1 - c - n) (Nat.le_succ k) (by rw [upd_s, t50]; exact nI_1 w1) hn (by rw [upd_n _ _ (by omega), upd_n _ _ (by omega), upd_n _ _ (by omega), e5]) (by omega) (by rw [upd_n _ _ (by omega), upd_n _ _ (by omega), upd_s, g1]) (fun O2 q1 q2 => ?_) (fun q => by have := f15 q; omega) keep
    have := nI_inj (by omega) (by omega) (q2.symm.trans e7)
    omega
theorem clr_at (r : Row) : clr r 45 = nI 0 ∧ clr r 46 = nI 0 ∧ clr r 47 = nI 0 ∧ clr r 48 = nI 0 ∧ clr r 50 = nI 0 ∧ clr r 51 = nI 0 ∧ clr r 52 = nI 0 ∧ clr r 53 = nI 0 := by
  refine ⟨?_, ?_, ?_, ?_, ?_, ?_, ?_, ?_⟩ <;> simp [clr, upd, nI]
theorem RI.cl0 (h : RI k r) : RI 0 (clr r) := by
  obtain ⟨q1, q2, q3, q4, q5, q6, q7, q8⟩ := clr_at r
  have keep : ∀ j, (j < 45 ∨ j = 49 ∨ 53 < j) → (clr r) j = r j := fun j hj => clr_keep r hj
  obtain ⟨S', u0, u1, p0, p1, R, O, b0, b1, l0, l1, sl, ⟨e1, e2, e3, e4, e5, e6, e7, e8, e9, e10, e11, e12⟩, ⟨f1, f2, f3, f4, f5, f6, f7, f8, f9, f10, f11, f12, f13, f14, f15⟩, g⟩ := h
  exact ⟨S', 0, 0, 0, 0, R, O, b0, b1, 0, 0, sl, ⟨(keep _ (by omega)).trans e1, q1, q5, q3, q7, (keep _ (by omega)).trans e6, (keep _ (by omega)).trans e7, (keep _ (by omega)).trans e8, (keep _ (by omega)).trans e9, q2, q6, (keep _ (by omega)).trans e12⟩, ⟨f1, Nat.zero_le _, Nat.le_refl _, Nat.le_refl _, f5, f6, f7, f8, f9, f10, Nat.zero_le _, Nat.zero_le _, f13, fun _ => rfl, fun _ => rfl⟩, fun j hj => by
    obtain ⟨x, y, q⟩ := g j hj
    rw [keep _ (by omega), keep _ (by omega)]
    exact ⟨x, y, q⟩⟩
end
