section
variable {k S u : Nat} {r r' : Row} {σ : AS}
theorem RI.upR {n : Nat} (h : RI k r) (h2 : 2 ≤ n) (h60 : n ≤ 60) (hb : r 44 < nI n) (hc : r 49 < nI n) : RI k (upd r 0 (nI n)) := by
  obtain ⟨S', u0, u1, p0, p1, R, O, b0, b1, l0, l1, sl, ⟨e1, e2, e3, e4, e5, e6, e7, e8, e9, e10, e11, e12⟩, ⟨f1, f2, f3, f4, f5, f6, f7, f8, f9, f10, f11, f12, f13, f14, f15⟩, g⟩ := h
  rw [e8, nI_ltI (by omega) (by omega)] at hb
  rw [e9, nI_ltI (by omega) (by omega)] at hc
  exact ⟨S', u0, u1, p0, p1, n, O, b0, b1, l0, l1, sl, ⟨(upd_n _ _ (by omega)).trans e1, (upd_n _ _ (by omega)).trans e2, (upd_n _ _ (by omega)).trans e3, (upd_n _ _ (by omega)).trans e4, (upd_n _ _ (by omega)).trans e5, upd_s _ _ _, (upd_n _ _ (by omega)).trans e7, (upd_n _ _ (by omega)).trans e8, (upd_n _ _ (by omega)).trans e9, (upd_n _ _ (by omega)).trans e10, (upd_n _ _ (by omega)).trans e11, (upd_n _ _ (by omega)).trans e12⟩, ⟨f1, f2, f3, f4, h2, h60, f7, f8, hb, hc, f11, f12, f13, f14, f15⟩, fun j hj => by
    obtain ⟨x, y, q⟩ := g j hj
    rw [upd_n _ _ (by omega), upd_n _ _ (by omega)]
    exact ⟨x, y, q⟩⟩
theorem RI.upO {n : Nat} (h : RI k r) (h2 : 20 ≤ n) (h60 : n ≤ 400) (hk : k < 1000) (hp : ¬ (0 < r 47 ∨ 0 < r 52)) : RI k (upd r 1 (nI n)) := by
  obtain ⟨S', u0, u1, p0, p1, R, O, b0, b1, l0, l1, sl, ⟨e1, e2, e3, e4, e5, e6, e7, e8, e9, e10, e11, e12⟩, ⟨f1, f2, f3, f4, f5, f6, f7, f8, f9, f10, f11, f12, f13, f14, f15⟩, g⟩ := h
  have z0 : p0 = 0 := by
    apply Classical.byContradiction
    intro q
    exact hp (Or.inl (by rw [e4]; exact nI_0lt (by omega) (by omega)))
  have z1 : p1 = 0 := by
    apply Classical.byContradiction
    intro q
    exact hp (Or.inr (by rw [e5]; exact nI_0lt (by omega) (by omega)))
  have y0 := f14 z0
  have y1 := f15 z1
  exact ⟨S', u0, u1, p0, p1, R, n, b0, b1, l0, l1, sl, ⟨(upd_n _ _ (by omega)).trans e1, (upd_n _ _ (by omega)).trans e2, (upd_n _ _ (by omega)).trans e3, (upd_n _ _ (by omega)).trans e4, (upd_n _ _ (by omega)).trans e5, (upd_n _ _ (by omega)).trans e6, upd_s _ _ _, (upd_n _ _ (by omega)).trans e8, (upd_n _ _ (by omega)).trans e9, (upd_n _ _ (by omega)).trans e10, (upd_n _ _ (by omega)).trans e11, (upd_n _ _ (by omega)).trans e12⟩, ⟨f1, f2, f3, f4, f5, f6, h2, h60, f9, f10, by omega, by omega, f13, f14, f15⟩, fun j hj => by
    obtain ⟨x, y, q⟩ := g j hj
    rw [upd_n _ _ (by omega), upd_n _ _ (by omega)]
    exact ⟨x, y, q⟩⟩
theorem RI.upL {n : Nat} (h : RI k r) (h2 : n ≤ 9) : RI k (upd r 2 (nI n)) := by
  obtain ⟨S', u0, u1, p0, p1, R, O, b0, b1, l0, l1, sl, ⟨e1, e2, e3, e4, e5, e6, e7, e8, e9, e10, e11, e12⟩, ⟨f1, f2, f3, f4, f5, f6, f7, f8, f9, f10, f11, f12, f13, f14, f15⟩, g⟩ := h
  exact ⟨S', u0, u1, p0, p1, R, O, b0, b1, l0, l1, n, ⟨(upd_n _ _ (by omega)).trans e1, (upd_n _ _ (by omega)).trans e2, (upd_n _ _ (by omega)).trans e3, (upd_n _ _ (by omega)).trans e4, (upd_n _ _ (by omega)).trans e5, (upd_n _ _ (by omega)).trans e6, (upd_n _ _ (by omega)).trans e7, (upd_n _ _ (by omega)).trans e8, (upd_n _ _ (by omega)).trans e9, (upd_n _ _ (by omega)).trans e10, (upd_n _ _ (by omega)).trans e11, upd_s _ _ _⟩, ⟨f1, f2, f3, f4, f5, f6, f7, f8, f9, f10, f11, f12, h2, f14, f15⟩, fun j hj => by
    obtain ⟨x, y, q⟩ := g j hj
    rw [upd_n _ _ (by omega), upd_n _ _ (by omega)]
    exact ⟨x, y, q⟩⟩
theorem RI.upB {n : Nat} (h : RI k r) (h2 : ∀ R : Nat, R ≤ 60 → r 0 = nI R → n < R) : RI k (upd r 44 (nI n)) := by
  obtain ⟨S', u0, u1, p0, p1, R, O, b0, b1, l0, l1, sl, ⟨e1, e2, e3, e4, e5, e6, e7, e8, e9, e10, e11, e12⟩, ⟨f1, f2, f3, f4, f5, f6, f7, f8, f9, f10, f11, f12, f13, f14, f15⟩, g⟩ := h
  exact ⟨S', u0, u1, p0, p1, R, O, n, b1, l0, l1, sl, ⟨(upd_n _ _ (by omega)).trans e1, (upd_n _ _ (by omega)).trans e2, (upd_n _ _ (by omega)).trans e3, (upd_n _ _ (by omega)).trans e4, (upd_n _ _ (by omega)).trans e5, (upd_n _ _ (by omega)).trans e6, (upd_n _ _ (by omega)).trans e7, upd_s _ _ _, (upd_n _ _ (by omega)).trans e9, (upd_n _ _ (by omega)).trans e10, (upd_n _ _ (by omega)).trans e11, (upd_n _ _ (by omega)).trans e12⟩, ⟨f1, f2, f3, f4, f5, f6, f7, f8, h2 R f6 e6, f10, f11, f12, f13, f14, f15⟩, fun j hj => by
    obtain ⟨x, y, q⟩ := g j hj
    rw [upd_n _ _ (by omega), upd_n _ _ (by omega)]
    exact ⟨x, y, q⟩⟩
theorem RI.upC {n : Nat} (h : RI k r) (h2 : ∀ R : Nat, R ≤ 60 → r 0 = nI R → n < R) : RI k (upd r 49 (nI n)) := by
  obtain ⟨S', u0, u1, p0, p1, R, O, b0, b1, l0, l1, sl, ⟨e1, e2, e3, e4, e5, e6, e7, e8, e9, e10, e11, e12⟩, ⟨f1, f2, f3, f4, f5, f6, f7, f8, f9, f10, f11, f12, f13, f14, f15⟩, g⟩ := h
  exact ⟨S', u0, u1, p0, p1, R, O, b0, n, l0, l1, sl, ⟨(upd_n _ _ (by omega)).trans e1, (upd_n _ _ (by omega)).trans e2, (upd_n _ _ (by omega)).trans e3, (upd_n _ _ (by omega)).trans e4, (upd_n _ _ (by omega)).trans e5, (upd_n _ _ (by omega)).trans e6, (upd_n _ _ (by omega)).trans e7, (upd_n _ _ (by omega)).trans e8, upd_s _ _ _, (upd_n _ _ (by omega)).trans e10, (upd_n _ _ (by omega)).trans e11, (upd_n _ _ (by omega)).trans e12⟩, ⟨f1, f2, f3, f4, f5, f6, f7, f8, f9, h2 R f6 e6, f11, f12, f13, f14, f15⟩, fun j hj => by
    obtain ⟨x, y, q⟩ := g j hj
    rw [upd_n _ _ (by omega), upd_n _ _ (by omega)]
    exact ⟨x, y, q⟩⟩
theorem RI.bd (h : RI k r) (h3 : r 3 = nI S) (hS : S < 20) {x y : Nat} (x1 : 10 ≤ x) (x2 : x ≤ 25) (y1 : 15 ≤ y) (y2 : y ≤ 40) : RI k (bld r S (nI x) (nI y)) := by
  obtain ⟨S', u0, u1, p0, p1, R, O, b0, b1, l0, l1, sl, ⟨e1, e2, e3, e4, e5, e6, e7, e8, e9, e10, e11, e12⟩, ⟨f1, f2, f3, f4, f5, f6, f7, f8, f9, f10, f11, f12, f13, f14, f15⟩, g⟩ := h
  obtain rfl : S = S' := nI_inj (by omega) (by omega) (h3.symm.trans e1)
  have keep : ∀ j, j ≠ 3 → j ≠ 4 + S → j ≠ 24 + S → bld r S (nI x) (nI y) j = r j := fun j q1 q2 q3 => by
    unfold bld
    rw [upd_n _ _ q1, upd_n _ _ q3, upd_n _ _ q2]
  exact ⟨S + 1, u0, u1, p0, p1, R, O, b0, b1, l0, l1, sl, ⟨upd_s _ _ _, (keep _ (by omega) (by omega) (by omega)).trans e2, (keep _ (by omega) (by omega) (by omega)).trans e3, (keep _ (by omega) (by omega) (by omega)).trans e4, (keep _ (by omega) (by omega) (by omega)).trans e5, (keep _ (by omega) (by omega) (by omega)).trans e6, (keep _ (by omega) (by omega) (by omega)).trans e7, (keep _ (by omega) (by omega) (by omega)).trans e8, (keep _ (by omega) (by omega) (by omega)).trans e9, (keep _ (by omega) (by omega) (by omega)).trans e10, (keep _ (by omega) (by omega) (by omega)).trans e11, (keep _ (by omega) (by omega) (by omega)).trans e12⟩, ⟨by omega, by omega, f3, f4, f5, f6, f7, f8, f9, f10, f11, f12, f13, f14, f15⟩, fun j hj => by
    by_cases hz : j = S
    · subst hz
      refine ⟨x, y, ?_, ?_, x1, x2, y1, y2⟩
      · unfold bld
        rw [upd_n _ _ (by omega), upd_n _ _ (by omega), upd_s]
      · unfold bld
        rw [upd_n _ _ (by omega), upd_s]
    · obtain ⟨x', y', q⟩ := g j (by omega)
      rw [keep _ (by omega) (by omega) (by omega), keep _ (by omega) (by omega) (by omega)]
      exact ⟨x', y', q⟩⟩
theorem RI.tke0 (h : RI k r) (hu : r 45 = nI (u + 1)) (hu2 : u + 1 ≤ 20) (j : Nat) : RI k (tk0 r j) := by
  have h' := h
  obtain ⟨S', u0, u1, p0, p1, R, O, b0, b1, l0, l1, sl, ⟨e1, e2, e3, e4, e5, e6, e7, e8, e9, e10, e11, e12⟩, ⟨f1, f2, f3, f4, f5, f6, f7, f8, f9, f10, f11, f12, f13, f14, f15⟩, g⟩ := h
  have e45 : tk0 r j 45 = nI u := by unfold tk0; rw [upd_n _ _ (by omega), upd_s, hu]; exact nI_pred u
  have keep : ∀ i, (i < 45 ∨ 48 < i) → tk0 r j i = r i := fun i hi => by unfold tk0; rw [upd_n _ _ (by omega), upd_n _ _ (by omega)]
  have e47 : tk0 r j 47 = nI p0 := by unfold tk0; rw [upd_n _ _ (by omega), upd_n _ _ (by omega)]; exact e4
  have e46 : tk0 r j 46 = nI l0 := by unfold tk0; rw [upd_n _ _ (by omega), upd_n _ _ (by omega)]; exact e10
  have e0 := nI_inj (by omega) (by omega) (hu.symm.trans e2)
  refine h'.w0 (Nat.le_refl k) e45 (fun S u1' q1 q2 q3 q4 => ?_) e47 f3 e46 (fun O' q1 q2 => ?_) f14 keep
  · have a1 := nI_inj (by omega) (by omega) (q2.symm.trans e1)
    have a2 := nI_inj (by omega) (by omega) (q3.symm.trans e3)
    omega
  · have a1 := nI_inj (by omega) (by omega) (q2.symm.trans e7)
    omega
theorem RI.tke1 (h : RI k r) (hu : r 50 = nI (u + 1)) (hu2 : u + 1 ≤ 20) (j : Nat) : RI k (tk1 r j) := by
  have h' := h
  obtain ⟨S', u0, u1, p0, p1, R, O, b0, b1, l0, l1, sl, ⟨e1, e2, e3, e4, e5, e6, e7, e8, e9, e10, e11, e12⟩, ⟨f1, f2, f3, f4, f5, f6, f7, f8, f9, f10, f11, f12, f13, f14, f15⟩, g⟩ := h
  have e50 : tk1 r j 50 = nI u := by unfold tk1; rw [upd_n _ _ (by omega), upd_s, hu]; exact nI_pred u
  have keep : ∀ i, (i < 50 ∨ 53 < i) → tk1 r j i = r i := fun i hi => by unfold tk1; rw [upd_n _ _ (by omega), upd_n _ _ (by omega)]
  have e52 : tk1 r j 52 = nI p1 := by unfold tk1; rw [upd_n _ _ (by omega), upd_n _ _ (by omega)]; exact e5
  have e51 : tk1 r j 51 = nI l1 := by unfold tk1; rw [upd_n _ _ (by omega), upd_n _ _ (by omega)]; exact e11
  have e0 := nI_inj (by omega) (by omega) (hu.symm.trans e3)
  refine h'.w1 (Nat.le_refl k) e50 (fun S u0' q1 q2 q3 q4 => ?_) e52 f4 e51 (fun O' q1 q2 => ?_) f15 keep
  · have a1 := nI_inj (by omega) (by omega) (q2.symm.trans e1)
    have a2 := nI_inj (by omega) (by omega) (q3.symm.trans e2)
    omega
  · have a1 := nI_inj (by omega) (by omega) (q2.symm.trans e7)
    omega
end
theorem RI.nums {k : Nat} {r : Row} (h : RI k r) : ∃ S u0 u1 : Nat, r 3 = nI S ∧ r 45 = nI u0 ∧ r 50 = nI u1 ∧ S ≤ 20 ∧ u0 + u1 ≤ S := by
  obtain ⟨S', u0, u1, p0, p1, R, O, b0, b1, l0, l1, sl, ⟨e1, e2, e3, -⟩, ⟨f1, f2, -⟩, -⟩ := h
  exact ⟨S', u0, u1, e1, e2, e3, f1, f2⟩
