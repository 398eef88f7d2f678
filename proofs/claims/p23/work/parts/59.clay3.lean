theorem sub3 (x y z : Int32) : x - y - z = (x - z) - y := by grind
theorem nI_b {n : Nat} (h : n < 2 ^ 19) : -2 ^ 20 < (nI n).toInt ∧ (nI n).toInt < 2 ^ 20 := by
  rw [nI_toInt (by omega)]
  omega
theorem nI_sb {n m : Nat} (h : n < 2 ^ 19) (h2 : m < 2 ^ 19) : -2 ^ 20 < (nI n - nI m).toInt ∧ (nI n - nI m).toInt < 2 ^ 20 := by
  have e1 := nI_toInt (n := n) (by omega)
  have e2 := nI_toInt (n := m) (by omega)
  rw [sub_toInt (by omega) (by omega), e1, e2]
  omega
theorem RI.lnb {k : Nat} {r : Row} (h : RI k r) {S : Nat} (h3 : r 3 = nI S) (hS : S ≤ 20) : ∀ n i : Nat, i + n ≤ S → ∃ m, lns r i n = nI m ∧ m ≤ 65 * n
  | 0, _, _ => ⟨0, rfl, Nat.le_refl _⟩
  | n + 1, i, hi => by
    obtain ⟨m, e, hm⟩ := h.lnb h3 hS n i (by omega)
    obtain ⟨c, ec, c1, c2⟩ := h.len h3 hS (show i + n < S by omega)
    exact ⟨m + c, by rw [lns, e, ec]; exact nI_add m c, by omega⟩
section
variable {S u k : Nat} {q ri tr ft : Nat → Int32} {r : Row}
theorem cut1 (hI : RI k r) (h3 : r 3 = nI S) (hS : S ≤ 20) {j : Nat} (hj : j < S) {l : Nat} (hl : l < 1000) : lo (nI l - mA r S (j + 1)) (r 0) = lo (nI l - mA r S j - ln r j) (r 0) := by
  obtain ⟨m, em, hm⟩ := hI.lnb h3 hS (S - (j + 1)) (j + 1) (by omega)
  obtain ⟨c, ec, c1, c2⟩ := hI.len h3 hS hj
  obtain ⟨S', u0, u1, p0, p1, R, O, b0, b1, l0, l1, sl, ⟨e1, e2, e3, e4, e5, e6, e7, e8, e9, e10, e11, e12⟩, ⟨f1, f2, f3, f4, f5, f6, f7, f8, f9, f10, f11, f12, f13, f14, f15⟩, g⟩ := hI
  have hm2 : m < 2 ^ 18 := by have : 65 * (S - (j + 1)) ≤ 65 * 20 := Nat.mul_le_mul_left _ (by omega); omega
  unfold mA
  rw [mA_back hj, em, ec, e6, e9, show nI c + nI m = nI (c + m) from nI_add c m]
  rw [lo_sub (by omega) (by omega) (nI_b (by omega)) (nI_sb (by omega) (by omega))]
  rw [show nI l - lo (nI b1 - nI (c + m)) (nI R) - nI c = (nI l - nI c) - lo (nI b1 - nI (c + m)) (nI R) from sub3 _ _ _]
  rw [lo_sub (by omega) (by omega) (nI_sb (by omega) (by omega)) (nI_sb (by omega) (by omega))]
  congr 1
  rw [show nI (c + m) = nI c + nI m from (nI_add c m).symm]
  generalize nI l = x
  generalize nI b1 = y
  generalize nI c = z
  generalize nI m = w
  grind
end
