section
variable {a k S : Nat} {σ : AS} {rf tf cf nf : Nat → Int32}
theorem blB_ok {f : Nat → Int32} {best least : Int32} {t : Nat} (h : best = -6 ∨ ∃ j, j < t ∧ best = nI j) : blB f best least t = -6 ∨ ∃ j, j < t + 1 ∧ blB f best least t = nI j := by
  have h' : best = -6 ∨ ∃ j, j < t + 1 ∧ best = nI j := by
    rcases h with h | ⟨j, hj, h⟩
    · exact Or.inl h
    · exact Or.inr ⟨j, by omega, h⟩
  unfold blB
  split
  · exact h'
  · split
    · exact Or.inr ⟨t, by omega, rfl⟩
    · split
      · exact Or.inr ⟨t, by omega, rfl⟩
      · exact h'
theorem p_wLoop (hI : RI k σ.1) (hk : k < 800) (h3 : σ.1 3 = nI S) (hS : S ≤ 20) (hS0 : 0 < S) (n0 : nf 0 = σ.1 0) (n1 : nf 1 = σ.1 1) (n3 : nf 3 = σ.1 3) (hc : LC σ.1 cf) (hrt : ∀ j, j < S → rf j = σ.1 (4 + j) ∧ tf j = σ.1 (24 + j)) : ∀ (d t s1 s2 : Nat) (m : xM) (x5 x6 : Int32) (v9 v10 v11 v12 v13 v14 : Value), t + d = S + 1 → a + 88 ≤ s1 → CC m a σ → LA4 m a rf tf cf nf → (x6 = -6 ∨ ∃ j, j < t ∧ x6 = nI j) → ∃ (m' : xM) (y5 : Int32) (w9 w10 w11 w12 w13 w14 : Value), rn 84 64 [.ref a, .ref (a + 82), .ref (a + 83), .ref (a + 86), .ref (a + 87), .int x5, .int x6, .int 1, .int (nI t), v9, v10, v11, v12, v13, v14] [] ((s1, s2), m) = rn 84 398 [.ref a, .ref (a + 82), .ref (a + 83), .ref (a + 86), .ref (a + 87), .int y5, .int (lt (tv σ.1 S) x6 x5 t d), .int 1, .int (nI (S + 1)), w9, w10, w11, w12, w13, w14] [] ((s1 + 3 * d, s2 + 52 * d), m') ∧ CC m' a σ ∧ ∀ x, (x < a ∨ a + 82 ≤ x) → x < s1 → m' x = m x := by
  intro d
  induction d with
  | zero =>
    intro t s1 s2 m x5 x6 v9 v10 v11 v12 v13 v14 hd hq hC hM h6
    obtain rfl : t = S + 1 := by omega
    have hn3 : nf 3 = nI S := n3.trans h3
    have c1 : nI S < nI (S + 1) := nI_lt (by omega) (by omega)
    have en := hM.2.2.2
    refine ⟨m, x5, v9, v10, v11, v12, v13, v14, ?_, hC, fun _ _ _ => rfl⟩
    rw [q84_64]
    simp only [q84_66, q84_66N, q84_68, q84_69, q84_70, q84_73, q84_73N, q84_75, q84_76, q84_77, q84_80, q84_82, rv_v, rv_n, rh_v, mu_at, isF_r, isK_r, fld_r, fset_r, gd0, gd1, gd2, gd3, gd4, gd5, gd6, gd7, gd8, gd9, gd10, gd11, gd12, gd13, inA_l, inW_l, inZ_l, inQ_l, aget_l, aset_l, qget_l, qset_l, isA_l, isA_q, alen_l, k2_i, k2_a, k2_n, k2_u, k2_l, ite_si, Option.isSome_some, List.cons_append, List.nil_append, List.length_cons, List.length_nil, Nat.reduceAdd, Nat.zero_add, Nat.reduceLT, Nat.reduceEqDiff, decide_true, decide_false, Bool.and_self, Bool.and_true, Bool.true_and, ↓reduceIte, List.set_cons_zero, List.set_cons_succ, Nat.reduceSub, Nat.add_left_cancel_iff, Nat.add_eq_left, Nat.left_eq_add, not_true_eq_false, not_false_eq_true, reduceCtorEq, i10, i01, ib10, ib01, beq_self_eq_true, eq_self, Int32.reduceLT, Int32.reduceToNatClampNeg, Int32.reduceAdd, Int32.reduceSub, Int32.reduceMul, Bool.or_true, Bool.true_or, Bool.or_false, Bool.false_or, Nat.reduceBEq, Nat.reduceMul, en, hn3, if_pos c1, lt, Nat.mul_zero, Nat.add_zero]
  | succ d ih =>
    intro t s1 s2 m x5 x6 v9 v10 v11 v12 v13 v14 hd hq hC hM h6
    obtain ⟨m1, w9, w10, w11, w12, w13, w14, e1, g1, f1⟩ := p_wIter (x5 := x5) (v9 := v9) (v10 := v10) (v11 := v11) (v12 := v12) (v13 := v13) (v14 := v14) (s2 := s2) hq hC hM hI hk h3 hS hS0 (show t ≤ S by omega) n0 n1 n3 hc hrt h6
    obtain ⟨m2, y5, u9, u10, u11, u12, u13, u14, e2, g2, f2⟩ := ih (t + 1) (s1 + 3) (s2 + 52) m1 (blL (tv σ.1 S) x6 x5 t) (blB (tv σ.1 S) x6 x5 t) w9 w10 w11 w12 w13 w14 (by omega) (by omega) g1 (hM.fr (fun x p1 p2 => f1 x (by omega) (by omega))) (blB_ok h6)
    rw [← lt_bl, show s1 + 3 + 3 * d = s1 + 3 * (d + 1) by omega, show s2 + 52 + 52 * d = s2 + 52 * (d + 1) by omega] at e2
    exact ⟨m2, y5, u9, u10, u11, u12, u13, u14, e1.trans e2, g2, fun x p1 p2 => (f2 x p1 (by omega)).trans (f1 x p1 p2)⟩
/-- the beginnings that fit -/
theorem beg_fit {R M b k : Nat} (hM : M < R) (hb : b < R) (hk : k < R) : (if M ≤ b then b - M else R + b - M) = k ↔ (k + M) % R = b := by
  by_cases h1 : k + M < R
  · rw [Nat.mod_eq_of_lt h1]
    split <;> omega
  · rw [Nat.mod_eq_sub_mod (by omega), Nat.mod_eq_of_lt (by omega)]
    split <;> omega
theorem p_wBeg {h : xH} {x5 x6 : Int32} {v10 v11 v12 v13 v14 : Value} (hC : CC h.2 a σ) (hM : LA4 h.2 a rf tf cf nf) (hI : RI k σ.1) (h3 : σ.1 3 = nI S) (hS : S ≤ 20) (hS1 : 1 < S) (n0 : nf 0 = σ.1 0) (hc : LC σ.1 cf) {R mm : Nat} (eR : σ.1 0 = nI R) (hR : R < 1000) (em : lns σ.1 0 S = nI mm) (hm : mm < 2000) : ∀ d i : Nat, i + d = R → rn 84 425 [.ref a, .ref (a + 82), .ref (a + 83), .ref (a + 86), .ref (a + 87), .int x5, .int x6, .int 1, .int (nI (mm % R)), .int (nI i), v10, v11, v12, v13, v14] [] h = rn 84 531 [.ref a, .ref (a + 82), .ref (a + 83), .ref (a + 86), .ref (a + 87), .int x5, .int x6, .int 1, .int (nI (mm % R)), .int (nI R), v10, v11, v12, v13, v14] [] h := by
  have k1 := hC.1
  unfold CO at k1
  obtain ⟨er, et, ec, en⟩ := hM
  obtain ⟨c0, c1, c2, c3, c4, c6, c7, c8, c9, c10, c5, c11⟩ := hc
  obtain ⟨R', b0, b1, eR', h2, h60, e44, e49, hb0, hb1⟩ := hI.beg
  obtain rfl : R = R' := nI_inj (by omega) (by omega) (eR.symm.trans eR')
  have hn0 : nf 0 = nI R := n0.trans eR
  have hne : ¬ nI R = 0 := nI_ne0 (by omega) (by omega)
  have hM : mm % R < R := Nat.mod_lt _ (by omega)
  have hn2 : ¬ σ.1 3 < 2 := by rw [h3]; exact nI_nlt (b := 2) (by omega) (by omega)
  have w0 : cl 62 [.ref a, .int 0] h = some (some (.int (nI (if mm % R ≤ b1 then b1 - mm % R else R + b1 - mm % R))), h) := by
    rw [c_best20 hS h3 hn2 h hC, em, eR, e49, ← lo_sub (by omega) (by omega) (nI_b (by omega)) (nI_b (by omega)), lo_nI (by omega) (by omega) (by omega), lo_pq hb1 hM (by omega)]
  have w1 : cl 62 [.ref a, .int 1] h = some (some (.int (nI ((b0 + mm % R) % R))), h) := by
    rw [c_best21 hS h3 hn2 h hC, em, eR, e44, show nI b0 + nI mm = nI (b0 + mm) from nI_add _ _, lo_nI (by omega) (by omega) (by omega), Nat.add_mod_mod]
  have hX : (if mm % R ≤ b1 then b1 - mm % R else R + b1 - mm % R) < R := by split <;> omega
  have hY : (b0 + mm % R) % R < R := Nat.mod_lt _ (by omega)
  have e44' : cf 0 = nI b0 := c0.trans e44
  have e49' : cf 6 = nI b1 := c6.trans e49
  have f0 : nI b0 + nI (mm % R) = nI (b0 + mm % R) := nI_add _ _
  have f2 : nI (b0 + mm % R) - nI (b0 + mm % R) / nI R * nI R = nI ((b0 + mm % R) % R) := pk_rem (by omega) (by omega) (by omega)
  have key : ∀ i, i < R → ((if mm % R ≤ b1 then b1 - mm % R else R + b1 - mm % R) = i ↔ (i + mm % R) % R = b1) := fun i hi => beg_fit hM hb1 hi
  generalize (if mm % R ≤ b1 then b1 - mm % R else R + b1 - mm % R) = X at *
  generalize (b0 + mm % R) % R = Y at *
  generalize mm % R = M at *
  intro d
  induction d with
  | zero =>
    intro i hi
    obtain rfl : i = R := by omega
    have q1 : ¬ nI i < nI i := Int32.lt_irrefl
    rw [q84_425]
    simp only [q84_427, q84_427N, q84_429, q84_430, q84_431, q84_434, q84_436, q84_439, q84_439N, q84_440, q84_441, q84_444, q84_446, q84_449, q84_450, q84_453, q84_454, q84_456, q84_458, q84_459, q84_459N, q84_461, q84_462, q84_463, q84_464, q84_464N, q84_465, q84_467, q84_468, q84_471, q84_472, q84_475, q84_476, q84_479, q84_479N, q84_480, q84_481, q84_484, q84_486, q84_489, q84_490, q84_493, q84_494, q84_494N, q84_495, q84_496, q84_497, q84_499, q84_500, q84_500N, q84_502, q84_503, q84_504, q84_505, q84_507, q84_510, q84_511, q84_514, q84_515, q84_518, q84_519, q84_522, q84_523, q84_525, q84_528, rv_v, rv_n, rh_v, mu_at, isF_r, isK_r, fld_r, fset_r, gd0, gd1, gd2, gd3, gd4, gd5, gd6, gd7, gd8, gd9, gd10, gd11, gd12, gd13, inA_l, inW_l, inZ_l, inQ_l, aget_l, aset_l, qget_l, qset_l, isA_l, isA_q, alen_l, k2_i, k2_a, k2_n, k2_u, k2_l, ite_si, Option.isSome_some, List.cons_append, List.nil_append, List.length_cons, List.length_nil, Nat.reduceAdd, Nat.zero_add, Nat.reduceLT, Nat.reduceEqDiff, decide_true, decide_false, Bool.and_self, Bool.and_true, Bool.true_and, ↓reduceIte, List.set_cons_zero, List.set_cons_succ, Nat.reduceSub, Nat.add_left_cancel_iff, Nat.add_eq_left, Nat.left_eq_add, not_true_eq_false, not_false_eq_true, reduceCtorEq, i10, i01, ib10, ib01, beq_self_eq_true, eq_self, Int32.reduceLT, Int32.reduceToNatClampNeg, Int32.reduceAdd, Int32.reduceSub, Int32.reduceMul, Bool.or_true, Bool.true_or, Bool.or_false, Bool.false_or, Nat.reduceBEq, Nat.reduceMul, en, hn0, if_neg q1]
  | succ d ih =>
    intro i hi
    have q1 : nI i < nI R := nI_lt (by omega) (by omega)
    have g1 : nI i + nI M = nI (i + M) := nI_add _ _
    have g2 : nI (i + M) - nI (i + M) / nI R * nI R = nI ((i + M) % R) := pk_rem (by omega) (by omega) (by omega)
    have hZ : (i + M) % R < R := Nat.mod_lt _ (by omega)
    have e3 := ih (i + 1) (by omega)
    have kk := key i (by omega)
    rw [q84_425]
    by_cases h1 : X = i
    · have u1 : nI X = nI i := by rw [h1]
      have u2 : nI ((i + M) % R) = nI b1 := by rw [kk.mp h1]
      by_cases h2 : Y = i
      · have u3 : nI Y = nI i := by rw [h2]
        simp only [q84_427, q84_427N, q84_429, q84_430, q84_431, q84_434, q84_436, q84_439, q84_439N, q84_440, q84_441, q84_444, q84_446, q84_449, q84_450, q84_453, q84_454, q84_456, q84_458, q84_459, q84_459N, q84_461, q84_462, q84_463, q84_464, q84_464N, q84_465, q84_467, q84_468, q84_471, q84_472, q84_475, q84_476, q84_479, q84_479N, q84_480, q84_481, q84_484, q84_486, q84_489, q84_490, q84_493, q84_494, q84_494N, q84_495, q84_496, q84_497, q84_499, q84_500, q84_500N, q84_502, q84_503, q84_504, q84_505, q84_507, q84_510, q84_511, q84_514, q84_515, q84_518, q84_519, q84_522, q84_523, q84_525, q84_528, rv_v, rv_n, rh_v, mu_at, isF_r, isK_r, fld_r, fset_r, gd0, gd1, gd2, gd3, gd4, gd5, gd6, gd7, gd8, gd9, gd10, gd11, gd12, gd13, inA_l, inW_l, inZ_l, inQ_l, aget_l, aset_l, qget_l, qset_l, isA_l, isA_q, alen_l, k2_i, k2_a, k2_n, k2_u, k2_l, ite_si, Option.isSome_some, List.cons_append, List.nil_append, List.length_cons, List.length_nil, Nat.reduceAdd, Nat.zero_add, Nat.reduceLT, Nat.reduceEqDiff, decide_true, decide_false, Bool.and_self, Bool.and_true, Bool.true_and, ↓reduceIte, List.set_cons_zero, List.set_cons_succ, Nat.reduceSub, Nat.add_left_cancel_iff, Nat.add_eq_left, Nat.left_eq_add, not_true_eq_false, not_false_eq_true, reduceCtorEq, i10, i01, ib10, ib01, beq_self_eq_true, eq_self, Int32.reduceLT, Int32.reduceToNatClampNeg, Int32.reduceAdd, Int32.reduceSub, Int32.reduceMul, Bool.or_true, Bool.true_or, Bool.or_false, Bool.false_or, Nat.reduceBEq, Nat.reduceMul, en, ec, hn0, if_pos q1, hne, k1, w0, w1, g1, g2, u1, u2, e44', e49', f0, f2, u3, nI_1, e3]
      · have u3 : ¬ nI Y = nI i := fun q => h2 (nI_inj (by omega) (by omega) q)
        simp only [q84_427, q84_427N, q84_429, q84_430, q84_431, q84_434, q84_436, q84_439, q84_439N, q84_440, q84_441, q84_444, q84_446, q84_449, q84_450, q84_453, q84_454, q84_456, q84_458, q84_459, q84_459N, q84_461, q84_462, q84_463, q84_464, q84_464N, q84_465, q84_467, q84_468, q84_471, q84_472, q84_475, q84_476, q84_479, q84_479N, q84_480, q84_481, q84_484, q84_486, q84_489, q84_490, q84_493, q84_494, q84_494N, q84_495, q84_496, q84_497, q84_499, q84_500, q84_500N, q84_502, q84_503, q84_504, q84_505, q84_507, q84_510, q84_511, q84_514, q84_515, q84_518, q84_519, q84_522, q84_523, q84_525, q84_528, rv_v, rv_n, rh_v, mu_at, isF_r, isK_r, fld_r, fset_r, gd0, gd1, gd2, gd3, gd4, gd5, gd6, gd7, gd8, gd9, gd10, gd11, gd12, gd13, inA_l, inW_l, inZ_l, inQ_l, aget_l, aset_l, qget_l, qset_l, isA_l, isA_q, alen_l, k2_i, k2_a, k2_n, k2_u, k2_l, ite_si, Option.isSome_some, List.cons_append, List.nil_append, List.length_cons, List.length_nil, Nat.reduceAdd, Nat.zero_add, Nat.reduceLT, Nat.reduceEqDiff, decide_true, decide_false, Bool.and_self, Bool.and_true, Bool.true_and, ↓reduceIte, List.set_cons_zero, List.set_cons_succ, Nat.reduceSub, Nat.add_left_cancel_iff, Nat.add_eq_left, Nat.left_eq_add, not_true_eq_false, not_false_eq_true, reduceCtorEq, i10, i01, ib10, ib01, beq_self_eq_true, eq_self, Int32.reduceLT, Int32.reduceToNatClampNeg, Int32.reduceAdd, Int32.reduceSub, Int32.reduceMul, Bool.or_true, Bool.true_or, Bool.or_false, Bool.false_or, Nat.reduceBEq, Nat.reduceMul, en, ec, hn0, if_pos q1, hne, k1, w0, w1, g1, g2, u1, u2, e44', e49', f0, f2, if_neg u3, nI_1, e3]
    · have u1 : ¬ nI X = nI i := fun q => h1 (nI_inj (by omega) (by omega) q)
      have u2 : ¬ nI ((i + M) % R) = nI b1 := fun q => h1 (kk.mpr (nI_inj (by omega) (by omega) q))
      by_cases h2 : Y = i
      · have u3 : nI Y = nI i := by rw [h2]
        simp only [q84_427, q84_427N, q84_429, q84_430, q84_431, q84_434, q84_436, q84_439, q84_439N, q84_440, q84_441, q84_444, q84_446, q84_449, q84_450, q84_453, q84_454, q84_456, q84_458, q84_459, q84_459N, q84_461, q84_462, q84_463, q84_464, q84_464N, q84_465, q84_467, q84_468, q84_471, q84_472, q84_475, q84_476, q84_479, q84_479N, q84_480, q84_481, q84_484, q84_486, q84_489, q84_490, q84_493, q84_494, q84_494N, q84_495, q84_496, q84_497, q84_499, q84_500, q84_500N, q84_502, q84_503, q84_504, q84_505, q84_507, q84_510, q84_511, q84_514, q84_515, q84_518, q84_519, q84_522, q84_523, q84_525, q84_528, rv_v, rv_n, rh_v, mu_at, isF_r, isK_r, fld_r, fset_r, gd0, gd1, gd2, gd3, gd4, gd5, gd6, gd7, gd8, gd9, gd10, gd11, gd12, gd13, inA_l, inW_l, inZ_l, inQ_l, aget_l, aset_l, qget_l, qset_l, isA_l, isA_q, alen_l, k2_i, k2_a, k2_n, k2_u, k2_l, ite_si, Option.isSome_some, List.cons_append, List.nil_append, List.length_cons, List.length_nil, Nat.reduceAdd, Nat.zero_add, Nat.reduceLT, Nat.reduceEqDiff, decide_true, decide_false, Bool.and_self, Bool.and_true, Bool.true_and, ↓reduceIte, List.set_cons_zero, List.set_cons_succ, Nat.reduceSub, Nat.add_left_cancel_iff, Nat.add_eq_left, Nat.left_eq_add, not_true_eq_false, not_false_eq_true, reduceCtorEq, i10, i01, ib10, ib01, beq_self_eq_true, eq_self, Int32.reduceLT, Int32.reduceToNatClampNeg, Int32.reduceAdd, Int32.reduceSub, Int32.reduceMul, Bool.or_true, Bool.true_or, Bool.or_false, Bool.false_or, Nat.reduceBEq, Nat.reduceMul, en, ec, hn0, if_pos q1, hne, k1, w0, w1, g1, g2, if_neg u1, if_neg u2, e44', e49', f0, f2, u3, nI_1, e3]
      · have u3 : ¬ nI Y = nI i := fun q => h2 (nI_inj (by omega) (by omega) q)
        simp only [q84_427, q84_427N, q84_429, q84_430, q84_431, q84_434, q84_436, q84_439, q84_439N, q84_440, q84_441, q84_444, q84_446, q84_449, q84_450, q84_453, q84_454, q84_456, q84_458, q84_459, q84_459N, q84_461, q84_462, q84_463, q84_464, q84_464N, q84_465, q84_467, q84_468, q84_471, q84_472, q84_475, q84_476, q84_479, q84_479N, q84_480, q84_481, q84_484, q84_486, q84_489, q84_490, q84_493, q84_494, q84_494N, q84_495, q84_496, q84_497, q84_499, q84_500, q84_500N, q84_502, q84_503, q84_504, q84_505, q84_507, q84_510, q84_511, q84_514, q84_515, q84_518, q84_519, q84_522, q84_523, q84_525, q84_528, rv_v, rv_n, rh_v, mu_at, isF_r, isK_r, fld_r, fset_r, gd0, gd1, gd2, gd3, gd4, gd5, gd6, gd7, gd8, gd9, gd10, gd11, gd12, gd13, inA_l, inW_l, inZ_l, inQ_l, aget_l, aset_l, qget_l, qset_l, isA_l, isA_q, alen_l, k2_i, k2_a, k2_n, k2_u, k2_l, ite_si, Option.isSome_some, List.cons_append, List.nil_append, List.length_cons, List.length_nil, Nat.reduceAdd, Nat.zero_add, Nat.reduceLT, Nat.reduceEqDiff, decide_true, decide_false, Bool.and_self, Bool.and_true, Bool.true_and, ↓reduceIte, List.set_cons_zero, List.set_cons_succ, Nat.reduceSub, Nat.add_left_cancel_iff, Nat.add_eq_left, Nat.left_eq_add, not_true_eq_false, not_false_eq_true, reduceCtorEq, i10, i01, ib10, ib01, beq_self_eq_true, eq_self, Int32.reduceLT, Int32.reduceToNatClampNeg, Int32.reduceAdd, Int32.reduceSub, Int32.reduceMul, Bool.or_true, Bool.true_or, Bool.or_false, Bool.false_or, Nat.reduceBEq, Nat.reduceMul, en, ec, hn0, if_pos q1, hne, k1, w0, w1, g1, g2, if_neg u1, if_neg u2, e44', e49', f0, f2, if_neg u3, nI_1, e3]
theorem p_would {s1 s2 : Nat} {m : xM} (hq : a + 88 ≤ s1) (hC : CC m a σ) (hM : LA4 m a rf tf cf nf) (hI : RI k σ.1) (hk : k < 800) (h3 : σ.1 3 = nI S) (hS : S ≤ 20) (n0 : nf 0 = σ.1 0) (n1 : nf 1 = σ.1 1) (n3 : nf 3 = σ.1 3) (hc : LC σ.1 cf) (hrt : ∀ j, j < S → rf j = σ.1 (4 + j) ∧ tf j = σ.1 (24 + j)) : ∃ (m' : xM) (d : Nat), cl 84 [.ref a, .ref (a + 82), .ref (a + 83), .ref (a + 86), .ref (a + 87)] ((s1, s2), m) = some (some (.int 1), ((s1 + 3 * d, s2 + 52 * d), m')) ∧ d ≤ 21 ∧ CC m' a σ ∧ ∀ x, (x < a ∨ a + 82 ≤ x) → x < s1 → m' x = m x := by
  have hn3 : nf 3 = nI S := n3.trans h3
  have k1 := hC.1
  unfold CO at k1
  have en := hM.2.2.2
  have j1 : nI S + 1 = nI (S + 1) := nI_1 S
  have hbad : ∀ i : Int32, (i < 0 ∨ ¬ i < nI S) → bw i 0 (σ.1 3 - 1) = 0 := by
    intro i hi
    rw [h3, ← has_bw _ hS]
    by_cases hz : i < 0
    · rw [if_pos hz]
    · rw [if_neg hz, if_neg (hi.resolve_left hz)]
  have b1 : bw (nI (S + 1)) 0 (σ.1 3) = 0 := by
    unfold bw
    rw [h3, if_neg (nI_pos (by omega)), if_pos (nI_lt (by omega) (by omega))]
  have w1 : cl 63 [.ref a, .int (nI (S + 1))] ((s1, s2), m) = some (some (.int (-1)), ((s1, s2), m)) := c_ifLaid1 (Or.inr b1) hI ((s1, s2), m) hC
  have w2 : cl 63 [.ref a, .int (-1)] ((s1, s2), m) = some (some (.int (-1)), ((s1, s2), m)) := c_ifLaid1 (Or.inr (show bw (-1) 0 (σ.1 3) = 0 by unfold bw; rw [if_pos (by decide)])) hI ((s1, s2), m) hC
  have w3 : cl 61 [.ref a, .int 0, .int 0] ((s1, s2), m) = some (some (.int (-1)), ((s1, s2), m)) := c_ifMet0 0 0 (Or.inr rfl) ((s1, s2), m) hC
  have w4 : cl 61 [.ref a, .int (nI S), .int 1] ((s1, s2), m) = some (some (.int (-1)), ((s1, s2), m)) := c_ifMet0 (nI S) 1 (Or.inl (hbad _ (Or.inr Int32.lt_irrefl))) ((s1, s2), m) hC
  have st : cl 84 [.ref a, .ref (a + 82), .ref (a + 83), .ref (a + 86), .ref (a + 87)] ((s1, s2), m) = rn 84 64 [.ref a, .ref (a + 82), .ref (a + 83), .ref (a + 86), .ref (a + 87), .int (-6), .int (-6), .int 1, .int 0, unk, unk, unk, unk, unk, unk] [] ((s1, s2), m) := by
    simp only [c84, q84_0, q84_2, q84_4, q84_6, q84_8, q84_8N, q84_9, q84_9N, q84_11, q84_12, q84_13, q84_14, q84_15, q84_18, q84_19, q84_22, q84_22N, q84_23, q84_24, q84_27, q84_28, q84_31, q84_31N, q84_32, q84_33, q84_34, q84_37, q84_38, q84_41, q84_41N, q84_42, q84_42N, q84_44, q84_45, q84_46, q84_47, q84_50, q84_51, q84_54, q84_55, q84_58, q84_59, q84_61, q84_62, rv_v, rv_n, rh_v, mu_at, isF_r, isK_r, fld_r, fset_r, gd0, gd1, gd2, gd3, gd4, gd5, gd6, gd7, gd8, gd9, gd10, gd11, gd12, gd13, inA_l, inW_l, inZ_l, inQ_l, aget_l, aset_l, qget_l, qset_l, isA_l, isA_q, alen_l, k2_i, k2_a, k2_n, k2_u, k2_l, ite_si, Option.isSome_some, List.cons_append, List.nil_append, List.length_cons, List.length_nil, Nat.reduceAdd, Nat.zero_add, Nat.reduceLT, Nat.reduceEqDiff, decide_true, decide_false, Bool.and_self, Bool.and_true, Bool.true_and, ↓reduceIte, List.set_cons_zero, List.set_cons_succ, Nat.reduceSub, Nat.add_left_cancel_iff, Nat.add_eq_left, Nat.left_eq_add, not_true_eq_false, not_false_eq_true, reduceCtorEq, i10, i01, ib10, ib01, beq_self_eq_true, eq_self, Int32.reduceLT, Int32.reduceToNatClampNeg, Int32.reduceAdd, Int32.reduceSub, Int32.reduceMul, Bool.or_true, Bool.true_or, Bool.or_false, Bool.false_or, Nat.reduceBEq, Nat.reduceMul, en, hn3, j1, k1, w1, w2, w3, w4]
  by_cases hS0 : S = 0
  · subst hS0
    have c1 : ¬ nI 0 < 0 := by decide
    have c2 : ¬ 0 < nI 0 := by decide
    have c3 : ¬ 1 < nI 0 := by decide
    have v1 : cl 65 [.ref a] ((s1, s2), m) = some (some (.int (-6)), ((s1, s2), m)) := c_least0 h3 ((s1, s2), m) hC
    have v2 : cl 62 [.ref a, .int 0] ((s1, s2), m) = some (some (.int (-5)), ((s1, s2), m)) := c_best1 0 (by decide) (by rw [h3]; decide) ((s1, s2), m) hC
    refine ⟨m, 0, ?_, by omega, hC, fun _ _ _ => rfl⟩
    rw [st]
    simp only [q84_64, q84_66, q84_66N, q84_68, q84_69, q84_70, q84_73, q84_73N, q84_75, q84_76, q84_77, q84_80, q84_82, q84_398, q84_398N, q84_400, q84_401, q84_402, q84_403, q84_531, q84_533, q84_536, q84_536N, q84_537, q84_540, q84_542, q84_545, q84_545N, q84_547, q84_548, q84_549, q84_550, q84_553, q84_553N, q84_554, q84_555, q84_558, q84_560, q84_563, q84_564, q84_567, q84_568, rv_v, rv_n, rh_v, mu_at, isF_r, isK_r, fld_r, fset_r, gd0, gd1, gd2, gd3, gd4, gd5, gd6, gd7, gd8, gd9, gd10, gd11, gd12, gd13, inA_l, inW_l, inZ_l, inQ_l, aget_l, aset_l, qget_l, qset_l, isA_l, isA_q, alen_l, k2_i, k2_a, k2_n, k2_u, k2_l, ite_si, Option.isSome_some, List.cons_append, List.nil_append, List.length_cons, List.length_nil, Nat.reduceAdd, Nat.zero_add, Nat.reduceLT, Nat.reduceEqDiff, decide_true, decide_false, Bool.and_self, Bool.and_true, Bool.true_and, ↓reduceIte, List.set_cons_zero, List.set_cons_succ, Nat.reduceSub, Nat.add_left_cancel_iff, Nat.add_eq_left, Nat.left_eq_add, not_true_eq_false, not_false_eq_true, reduceCtorEq, i10, i01, ib10, ib01, beq_self_eq_true, eq_self, Int32.reduceLT, Int32.reduceToNatClampNeg, Int32.reduceAdd, Int32.reduceSub, Int32.reduceMul, Bool.or_true, Bool.true_or, Bool.or_false, Bool.false_or, Nat.reduceBEq, Nat.reduceMul, en, hn3, if_neg c1, if_neg c2, if_neg c3, k1, v1, v2, Nat.mul_zero, Nat.add_zero]
  · obtain ⟨m1, y5, w9, w10, w11, w12, w13, w14, e1, g1, f1⟩ := p_wLoop hI hk h3 hS (by omega) n0 n1 n3 hc hrt (S + 1) 0 s1 s2 m (-6) (-6) unk unk unk unk unk unk (by omega) hq hC hM (Or.inl rfl)
    rw [show nI 0 = 0 from rfl] at e1
    have hM1 := hM.fr (m' := m1) (fun x p1 p2 => f1 x (by omega) (by omega))
    obtain ⟨m2, e2, g2, f2⟩ := c_least1 hS (by omega) h3 hI ((s1 + 3 * (S + 1), s2 + 52 * (S + 1)), m1) g1
    have hM2 := hM1.fr (m' := m2) (fun x p1 p2 => f2 x (by omega))
    have en1 := hM1.2.2.2
    have en2 := hM2.2.2.2
    have k2 := g1.1
    unfold CO at k2
    have k3 := g2.1
    unfold CO at k3
    refine ⟨m2, S + 1, ?_, by omega, g2, fun x p1 p2 => (f2 x p1).trans (f1 x p1 p2)⟩
    rw [st, e1]
    generalize lt (tv σ.1 S) (-6) (-6) 0 (S + 1) = BB at e2
    by_cases hS1 : S = 1
    · subst hS1
      have c3 : ¬ 1 < nI 1 := by decide
      have v2 : cl 62 [.ref a, .int 0] ((s1 + 3 * (1 + 1), s2 + 52 * (1 + 1)), m2) = some (some (.int (-5)), ((s1 + 3 * (1 + 1), s2 + 52 * (1 + 1)), m2)) := c_best1 0 (by decide) (by rw [h3]; decide) _ g2
      generalize s1 + 3 * (1 + 1) = S1 at *
      generalize s2 + 52 * (1 + 1) = S2 at *
      simp only [q84_398, q84_398N, q84_400, q84_401, q84_402, q84_403, q84_531, q84_533, q84_536, q84_536N, q84_537, q84_540, q84_542, q84_545, q84_545N, q84_547, q84_548, q84_549, q84_550, q84_553, q84_553N, q84_554, q84_555, q84_558, q84_560, q84_563, q84_564, q84_567, q84_568, rv_v, rv_n, rh_v, mu_at, isF_r, isK_r, fld_r, fset_r, gd0, gd1, gd2, gd3, gd4, gd5, gd6, gd7, gd8, gd9, gd10, gd11, gd12, gd13, inA_l, inW_l, inZ_l, inQ_l, aget_l, aset_l, qget_l, qset_l, isA_l, isA_q, alen_l, k2_i, k2_a, k2_n, k2_u, k2_l, ite_si, Option.isSome_some, List.cons_append, List.nil_append, List.length_cons, List.length_nil, Nat.reduceAdd, Nat.zero_add, Nat.reduceLT, Nat.reduceEqDiff, decide_true, decide_false, Bool.and_self, Bool.and_true, Bool.true_and, ↓reduceIte, List.set_cons_zero, List.set_cons_succ, Nat.reduceSub, Nat.add_left_cancel_iff, Nat.add_eq_left, Nat.left_eq_add, not_true_eq_false, not_false_eq_true, reduceCtorEq, i10, i01, ib10, ib01, beq_self_eq_true, eq_self, Int32.reduceLT, Int32.reduceToNatClampNeg, Int32.reduceAdd, Int32.reduceSub, Int32.reduceMul, Bool.or_true, Bool.true_or, Bool.or_false, Bool.false_or, Nat.reduceBEq, Nat.reduceMul, en1, en2, hn3, if_neg c3, k2, k3, e2, v2]
    · have c3 : 1 < nI S := nI_lt (a := 1) (by omega) (by omega)
      obtain ⟨R, eR, r2, r60⟩ := hI.rep
      obtain ⟨mm, em, hmm⟩ := hI.lnb h3 hS S 0 (by omega)
      have hm2 : mm < 2000 := by have : 65 * S ≤ 65 * 20 := Nat.mul_le_mul_left _ hS; omega
      have hn0 : nf 0 = nI R := n0.trans eR
      have hne : ¬ nI R = 0 := nI_ne0 (by omega) (by omega)
      generalize s1 + 3 * (S + 1) = S1 at *
      generalize s2 + 52 * (S + 1) = S2 at *
      have es := p_sum (h := ((S1, S2), m1)) hS hM1.1 hM1.2.1 (r := σ.1) (fun j hj => by rw [(hrt j hj).1, (hrt j hj).2]; rfl) hn3
      rw [hn3, em] at es
      have em2 : nI mm - nI mm / nI R * nI R = nI (mm % R) := pk_rem (by omega) (by omega) (by omega)
      have eb := p_wBeg (h := ((S1, S2), m1)) (x5 := y5) (x6 := BB) (v10 := w10) (v11 := w11) (v12 := w12) (v13 := w13) (v14 := w14) g1 hM1 hI h3 hS (by omega) n0 hc eR (by omega) em hm2 R 0 (by omega)
      rw [show nI 0 = 0 from rfl] at eb
      simp only [q84_398, q84_398N, q84_400, q84_401, q84_402, q84_403, q84_406, q84_406N, q84_407, q84_407N, q84_408, q84_408N, q84_410, q84_411, q84_412, q84_415, q84_415N, q84_417, q84_418, q84_419, q84_420, q84_422, q84_423, q84_531, q84_533, q84_536, q84_536N, q84_537, q84_540, q84_542, q84_545, q84_545N, q84_547, q84_548, q84_549, q84_550, q84_553, q84_553N, q84_554, q84_555, q84_558, q84_560, q84_563, q84_564, q84_567, q84_568, rv_v, rv_n, rh_v, mu_at, isF_r, isK_r, fld_r, fset_r, gd0, gd1, gd2, gd3, gd4, gd5, gd6, gd7, gd8, gd9, gd10, gd11, gd12, gd13, inA_l, inW_l, inZ_l, inQ_l, aget_l, aset_l, qget_l, qset_l, isA_l, isA_q, alen_l, k2_i, k2_a, k2_n, k2_u, k2_l, ite_si, Option.isSome_some, List.cons_append, List.nil_append, List.length_cons, List.length_nil, Nat.reduceAdd, Nat.zero_add, Nat.reduceLT, Nat.reduceEqDiff, decide_true, decide_false, Bool.and_self, Bool.and_true, Bool.true_and, ↓reduceIte, List.set_cons_zero, List.set_cons_succ, Nat.reduceSub, Nat.add_left_cancel_iff, Nat.add_eq_left, Nat.left_eq_add, not_true_eq_false, not_false_eq_true, reduceCtorEq, i10, i01, ib10, ib01, beq_self_eq_true, eq_self, Int32.reduceLT, Int32.reduceToNatClampNeg, Int32.reduceAdd, Int32.reduceSub, Int32.reduceMul, Bool.or_true, Bool.true_or, Bool.or_false, Bool.false_or, Nat.reduceBEq, Nat.reduceMul, en1, en2, hn3, hn0, hne, if_pos c3, es, em2, eb, k2, k3, e2]
end
