theorem mn_eq (u v : Int32) : (if v < u then v else u) = if u < v then u else v := by
  by_cases h : u < v
  · rw [if_pos h, if_neg]
    rw [Int32.lt_iff_toInt_lt] at h ⊢
    omega
  · rw [if_neg h]
    by_cases h2 : v < u
    · rw [if_pos h2]
    · rw [if_neg h2]
      rw [Int32.lt_iff_toInt_lt] at h h2
      exact Int32.toInt_inj.mp (by omega)
theorem dO_mD {q : Nat → Int32} {r : Row} (h : q 0 = r 0) (x y : Int32) : dO q x y = mD r x y := by
  unfold dO mD
  rw [h, mn_eq]
section
variable {S k : Nat} {r : Row}
theorem RI.beg (h : RI k r) : ∃ R b0 b1 : Nat, r 0 = nI R ∧ 2 ≤ R ∧ R ≤ 60 ∧ r 44 = nI b0 ∧ r 49 = nI b1 ∧ b0 < R ∧ b1 < R := by
  obtain ⟨S, u0, u1, p0, p1, R, O, b0, b1, l0, l1, sl, ⟨e1, e2, e3, e4, e5, e6, e7, e8, e9, e10, e11, e12⟩, ⟨f1, f2, f3, f4, f5, f6, f7, f8, f9, f10, f11, f12, f13, f14, f15⟩, g⟩ := h
  exact ⟨R, b0, b1, e6, f5, f6, e8, e9, f9, f10⟩
theorem mB_0 (h : RI k r) : mB r 0 = r 44 := by
  obtain ⟨R, b0, b1, e0, h2, h60, e44, e49, hb0, hb1⟩ := h.beg
  unfold mB
  rw [lns, Int32.add_zero, e44, e0, lo_nI (by omega) (by omega) (by omega), Nat.mod_eq_of_lt hb0]
theorem mB_s (h : RI k r) (h3 : r 3 = nI S) (hS : S ≤ 20) {j : Nat} (hj : j < S) : mB r (j + 1) = lo (mB r j + ln r j) (r 0) := by
  obtain ⟨R, b0, b1, e0, h2, h60, e44, e49, hb0, hb1⟩ := h.beg
  obtain ⟨m, em, hm⟩ := h.lnb h3 hS j 0 (by omega)
  obtain ⟨c, ec, c1, c2⟩ := h.len h3 hS hj
  have hm2 : m < 2 ^ 18 := by have : 65 * j ≤ 65 * 20 := Nat.mul_le_mul_left _ (by omega); omega
  unfold mB
  rw [lns, Nat.zero_add, em, ec, e44, e0, show nI b0 + nI m = nI (b0 + m) from nI_add _ _, lo_add (by omega) (by omega) (nI_b (by omega)) (nI_b (by omega)), ← Int32.add_assoc, show nI b0 + nI m = nI (b0 + m) from nI_add _ _]
theorem mA_0 (h : RI k r) : mA r S S = r 49 := by
  obtain ⟨R, b0, b1, e0, h2, h60, e44, e49, hb0, hb1⟩ := h.beg
  unfold mA
  rw [Nat.sub_self, lns, Int32.sub_zero, e49, e0, lo_nI (by omega) (by omega) (by omega), Nat.mod_eq_of_lt hb1]
theorem mA_s (h : RI k r) (h3 : r 3 = nI S) (hS : S ≤ 20) {j : Nat} (hj : j < S) : mA r S j = lo (mA r S (j + 1) - ln r j) (r 0) := by
  obtain ⟨R, b0, b1, e0, h2, h60, e44, e49, hb0, hb1⟩ := h.beg
  obtain ⟨m, em, hm⟩ := h.lnb h3 hS (S - (j + 1)) (j + 1) (by omega)
  obtain ⟨c, ec, c1, c2⟩ := h.len h3 hS hj
  have hm2 : m < 2 ^ 18 := by have : 65 * (S - (j + 1)) ≤ 65 * 20 := Nat.mul_le_mul_left _ (by omega); omega
  unfold mA
  rw [mA_back hj, em, ec, e49, e0, lo_sub2 (by omega) (by omega) (nI_sb (by omega) (by omega)) (nI_b (by omega))]
  congr 1
  rw [← Int32.sub_sub]
  exact sub3 _ _ _
theorem p_sbs1 {a : Nat} {q ri tr ft : Nat → Int32} {h : xH} (hA : HA h.2 a q ri tr ft) (hR : RR S q ri tr ft r) (hI : RI k r) {j : Nat} (hj : j ≤ S) : ∀ d i : Nat, i + d = j → rn 33 10 [.ref a, .int (nI j), .int (mB r i), .int (nI i), unk] [] h = rn 33 39 [.ref a, .int (nI j), .int (mB r j), .int (nI j), unk] [] h := by
  have hS := hR.1
  intro d
  induction d with
  | zero =>
    intro i hi
    obtain rfl : i = j := by omega
    have c1 : ¬ nI i < nI i := Int32.lt_irrefl
    rw [q33_10]
    simp only [q33_0, q33_1, q33_4, q33_7, q33_8, q33_9, q33_11, q33_12, q33_15, q33_16, q33_17, q33_20, q33_21, q33_24, q33_25, q33_26, q33_29, q33_32, q33_33, q33_36, q33_40, q33_43, q33_46, q33_47, q33_48, q33_51, q33_54, q33_55, q33_56, q33_58, q33_60, q33_61, q33_64, q33_65, q33_66, q33_69, q33_71, q33_74, q33_75, q33_76, q33_79, q33_82, q33_83, q33_86, q33_89, q33_90, q33_91, q33_92, q33_95, rv_v, rv_n, rh_v, mu_at, isF_r, isK_r, fld_r, fset_r, gd0, gd1, gd2, gd3, gd4, gd5, gd6, gd7, gd8, gd9, gd10, gd11, gd12, gd13, inA_l, inW_l, inZ_l, inQ_l, aget_l, aset_l, qget_l, qset_l, isA_l, isA_q, alen_l, k2_i, k2_a, k2_n, k2_u, k2_l, ite_si, Option.isSome_some, List.cons_append, List.nil_append, List.length_cons, List.length_nil, Nat.reduceAdd, Nat.zero_add, Nat.reduceLT, Nat.reduceEqDiff, decide_true, decide_false, Bool.and_self, Bool.and_true, Bool.true_and, ↓reduceIte, List.set_cons_zero, List.set_cons_succ, Nat.reduceSub, Nat.add_left_cancel_iff, Nat.add_eq_left, Nat.left_eq_add, not_true_eq_false, not_false_eq_true, reduceCtorEq, i10, i01, ib10, ib01, beq_self_eq_true, eq_self, Int32.reduceLT, Int32.reduceToNatClampNeg, Int32.reduceAdd, Int32.reduceSub, Int32.reduceMul, Bool.or_true, Bool.true_or, Bool.or_false, Bool.false_or, Nat.reduceBEq, Nat.reduceMul, c1]
  | succ d ih =>
    intro i hi
    have c1 : nI i < nI j := nI_lt (by omega) (by omega)
    have e1 := p_lengthOf (nI i) hA.2.1
    rw [hR.hl (by omega)] at e1
    have e2 := mB_s hI hR.2.1 hS (show i < S by omega)
    rw [← hR.i0] at e2
    have e3 := ih (i + 1) (by omega)
    rw [e2] at e3
    have hH := hA.1
    have hs := hA.2.1.1
    rw [q33_10]
    simp only [q33_0, q33_1, q33_4, q33_7, q33_8, q33_9, q33_11, q33_12, q33_15, q33_16, q33_17, q33_20, q33_21, q33_24, q33_25, q33_26, q33_29, q33_32, q33_33, q33_36, q33_40, q33_43, q33_46, q33_47, q33_48, q33_51, q33_54, q33_55, q33_56, q33_58, q33_60, q33_61, q33_64, q33_65, q33_66, q33_69, q33_71, q33_74, q33_75, q33_76, q33_79, q33_82, q33_83, q33_86, q33_89, q33_90, q33_91, q33_92, q33_95, rv_v, rv_n, rh_v, mu_at, isF_r, isK_r, fld_r, fset_r, gd0, gd1, gd2, gd3, gd4, gd5, gd6, gd7, gd8, gd9, gd10, gd11, gd12, gd13, inA_l, inW_l, inZ_l, inQ_l, aget_l, aset_l, qget_l, qset_l, isA_l, isA_q, alen_l, k2_i, k2_a, k2_n, k2_u, k2_l, ite_si, Option.isSome_some, List.cons_append, List.nil_append, List.length_cons, List.length_nil, Nat.reduceAdd, Nat.zero_add, Nat.reduceLT, Nat.reduceEqDiff, decide_true, decide_false, Bool.and_self, Bool.and_true, Bool.true_and, ↓reduceIte, List.set_cons_zero, List.set_cons_succ, Nat.reduceSub, Nat.add_left_cancel_iff, Nat.add_eq_left, Nat.left_eq_add, not_true_eq_false, not_false_eq_true, reduceCtorEq, i10, i01, ib10, ib01, beq_self_eq_true, eq_self, Int32.reduceLT, Int32.reduceToNatClampNeg, Int32.reduceAdd, Int32.reduceSub, Int32.reduceMul, Bool.or_true, Bool.true_or, Bool.or_false, Bool.false_or, Nat.reduceBEq, Nat.reduceMul, hH, hs, c1, p_leftOver, e1, nI_1, e3]
theorem p_sbs2 {a : Nat} {q ri tr ft : Nat → Int32} {h : xH} (hA : HA h.2 a q ri tr ft) (hR : RR S q ri tr ft r) (hI : RI k r) {j : Nat} (hj : j ≤ S) (x : Int32) : ∀ d i : Nat, j + d = i → i ≤ S → rn 33 58 [.ref a, .int (nI j), .int x, .int (mA r S i), .int (nI i - 1)] [] h = some (some (.int (mD r x (mA r S j))), h) := by
  have hS := hR.1
  intro d
  induction d with
  | zero =>
    intro i hi hiS
    obtain rfl : i = j := by omega
    have c1 : nI i - 1 < nI i := by
      rw [Int32.lt_iff_toInt_lt, show (1 : Int32) = nI 1 from rfl, pk_sub_toInt (by omega) (by omega), nI_toInt (by omega)]
      omega
    have e3 := p_diffOf x (mA r S i) hA
    rw [dO_mD hR.i0] at e3
    have hH := hA.1
    rw [q33_58]
    simp only [q33_0, q33_1, q33_4, q33_7, q33_8, q33_9, q33_10, q33_11, q33_12, q33_15, q33_16, q33_17, q33_20, q33_21, q33_24, q33_25, q33_26, q33_29, q33_32, q33_33, q33_36, q33_39, q33_40, q33_43, q33_46, q33_47, q33_48, q33_51, q33_54, q33_55, q33_56, q33_60, q33_61, q33_64, q33_65, q33_66, q33_69, q33_71, q33_74, q33_75, q33_76, q33_79, q33_82, q33_83, q33_86, q33_89, q33_90, q33_91, q33_92, q33_95, rv_v, rv_n, rh_v, mu_at, isF_r, isK_r, fld_r, fset_r, gd0, gd1, gd2, gd3, gd4, gd5, gd6, gd7, gd8, gd9, gd10, gd11, gd12, gd13, inA_l, inW_l, inZ_l, inQ_l, aget_l, aset_l, qget_l, qset_l, isA_l, isA_q, alen_l, k2_i, k2_a, k2_n, k2_u, k2_l, ite_si, Option.isSome_some, List.cons_append, List.nil_append, List.length_cons, List.length_nil, Nat.reduceAdd, Nat.zero_add, Nat.reduceLT, Nat.reduceEqDiff, decide_true, decide_false, Bool.and_self, Bool.and_true, Bool.true_and, ↓reduceIte, List.set_cons_zero, List.set_cons_succ, Nat.reduceSub, Nat.add_left_cancel_iff, Nat.add_eq_left, Nat.left_eq_add, not_true_eq_false, not_false_eq_true, reduceCtorEq, i10, i01, ib10, ib01, beq_self_eq_true, eq_self, Int32.reduceLT, Int32.reduceToNatClampNeg, Int32.reduceAdd, Int32.reduceSub, Int32.reduceMul, Bool.or_true, Bool.true_or, Bool.or_false, Bool.false_or, Nat.reduceBEq, Nat.reduceMul, hH, c1, e3]
  | succ d ih =>
    intro i hi hiS
    obtain ⟨i', rfl⟩ : ∃ i', i = i' + 1 := ⟨i - 1, by omega⟩
    have c1 : ¬ nI i' < nI j := nI_nlt (by omega) (by omega)
    have e1 := p_lengthOf (nI i') hA.2.1
    rw [hR.hl (by omega)] at e1
    have e2 := mA_s hI hR.2.1 hS (show i' < S by omega)
    rw [← hR.i0] at e2
    have e3 := ih i' (by omega) (by omega)
    rw [e2] at e3
    have e4 : nI i' + -1 = nI i' - 1 := (Int32.sub_eq_add_neg _ _).symm
    have hH := hA.1
    have hs := hA.2.1.1
    rw [show nI (i' + 1) - 1 = nI i' from nI_pred i', q33_58]
    simp only [q33_0, q33_1, q33_4, q33_7, q33_8, q33_9, q33_10, q33_11, q33_12, q33_15, q33_16, q33_17, q33_20, q33_21, q33_24, q33_25, q33_26, q33_29, q33_32, q33_33, q33_36, q33_39, q33_40, q33_43, q33_46, q33_47, q33_48, q33_51, q33_54, q33_55, q33_56, q33_60, q33_61, q33_64, q33_65, q33_66, q33_69, q33_71, q33_74, q33_75, q33_76, q33_79, q33_82, q33_83, q33_86, q33_89, q33_90, q33_91, q33_92, q33_95, rv_v, rv_n, rh_v, mu_at, isF_r, isK_r, fld_r, fset_r, gd0, gd1, gd2, gd3, gd4, gd5, gd6, gd7, gd8, gd9, gd10, gd11, gd12, gd13, inA_l, inW_l, inZ_l, inQ_l, aget_l, aset_l, qget_l, qset_l, isA_l, isA_q, alen_l, k2_i, k2_a, k2_n, k2_u, k2_l, ite_si, Option.isSome_some, List.cons_append, List.nil_append, List.length_cons, List.length_nil, Nat.reduceAdd, Nat.zero_add, Nat.reduceLT, Nat.reduceEqDiff, decide_true, decide_false, Bool.and_self, Bool.and_true, Bool.true_and, ↓reduceIte, List.set_cons_zero, List.set_cons_succ, Nat.reduceSub, Nat.add_left_cancel_iff, Nat.add_eq_left, Nat.left_eq_add, not_true_eq_false, not_false_eq_true, reduceCtorEq, i10, i01, ib10, ib01, beq_self_eq_true, eq_self, Int32.reduceLT, Int32.reduceToNatClampNeg, Int32.reduceAdd, Int32.reduceSub, Int32.reduceMul, Bool.or_true, Bool.true_or, Bool.or_false, Bool.false_or, Nat.reduceBEq, Nat.reduceMul, hH, hs, c1, p_leftOver, e1, e4, e3]
theorem p_sbs {a : Nat} {q ri tr ft : Nat → Int32} {h : xH} (hA : HA h.2 a q ri tr ft) (hR : RR S q ri tr ft r) (hI : RI k r) {j : Nat} (hj : j ≤ S) : cl 33 [.ref a, .int (nI j)] h = some (some (.int (mD r (mB r j) (mA r S j))), h) := by
  have e1 := p_sbs1 hA hR hI hj j 0 (by omega)
  have e2 := p_sbs2 hA hR hI hj (mB r j) (S - j) S (by omega) (Nat.le_refl _)
  rw [mB_0 hI, show nI 0 = 0 from rfl] at e1
  rw [mA_0 hI] at e2
  have h1 := hA.1
  have h5 := hA.2.2.1
  have h6 := hA.2.2.2
  unfold CA at h5 h6
  have hs := hA.2.1.1
  rw [hR.i3] at hs
  rw [hR.i4] at h5
  rw [hR.i9] at h6
  have s1 : cl 33 [.ref a, .int (nI j)] h = rn 33 10 [.ref a, .int (nI j), .int (r 44), .int 0, unk] [] h := by
    simp only [c33, q33_0, q33_1, q33_4, q33_7, q33_8, q33_9, q33_11, q33_12, q33_15, q33_16, q33_17, q33_20, q33_21, q33_24, q33_25, q33_26, q33_29, q33_32, q33_33, q33_36, q33_39, q33_40, q33_43, q33_46, q33_47, q33_48, q33_51, q33_54, q33_55, q33_56, q33_58, q33_60, q33_61, q33_64, q33_65, q33_66, q33_69, q33_71, q33_74, q33_75, q33_76, q33_79, q33_82, q33_83, q33_86, q33_89, q33_90, q33_91, q33_92, q33_95, rv_v, rv_n, rh_v, mu_at, isF_r, isK_r, fld_r, fset_r, gd0, gd1, gd2, gd3, gd4, gd5, gd6, gd7, gd8, gd9, gd10, gd11, gd12, gd13, inA_l, inW_l, inZ_l, inQ_l, aget_l, aset_l, qget_l, qset_l, isA_l, isA_q, alen_l, k2_i, k2_a, k2_n, k2_u, k2_l, ite_si, Option.isSome_some, List.cons_append, List.nil_append, List.length_cons, List.length_nil, Nat.reduceAdd, Nat.zero_add, Nat.reduceLT, Nat.reduceEqDiff, decide_true, decide_false, Bool.and_self, Bool.and_true, Bool.true_and, ↓reduceIte, List.set_cons_zero, List.set_cons_succ, Nat.reduceSub, Nat.add_left_cancel_iff, Nat.add_eq_left, Nat.left_eq_add, not_true_eq_false, not_false_eq_true, reduceCtorEq, i10, i01, ib10, ib01, beq_self_eq_true, eq_self, Int32.reduceLT, Int32.reduceToNatClampNeg, Int32.reduceAdd, Int32.reduceSub, Int32.reduceMul, Bool.or_true, Bool.true_or, Bool.or_false, Bool.false_or, Nat.reduceBEq, Nat.reduceMul, h1, h5]
  have s2 : rn 33 39 [.ref a, .int (nI j), .int (mB r j), .int (nI j), unk] [] h = rn 33 58 [.ref a, .int (nI j), .int (mB r j), .int (r 49), .int (nI S - 1)] [] h := by
    simp only [q33_0, q33_1, q33_4, q33_7, q33_8, q33_9, q33_10, q33_11, q33_12, q33_15, q33_16, q33_17, q33_20, q33_21, q33_24, q33_25, q33_26, q33_29, q33_32, q33_33, q33_36, q33_39, q33_40, q33_43, q33_46, q33_47, q33_48, q33_51, q33_54, q33_55, q33_56, q33_60, q33_61, q33_64, q33_65, q33_66, q33_69, q33_71, q33_74, q33_75, q33_76, q33_79, q33_82, q33_83, q33_86, q33_89, q33_90, q33_91, q33_92, q33_95, rv_v, rv_n, rh_v, mu_at, isF_r, isK_r, fld_r, fset_r, gd0, gd1, gd2, gd3, gd4, gd5, gd6, gd7, gd8, gd9, gd10, gd11, gd12, gd13, inA_l, inW_l, inZ_l, inQ_l, aget_l, aset_l, qget_l, qset_l, isA_l, isA_q, alen_l, k2_i, k2_a, k2_n, k2_u, k2_l, ite_si, Option.isSome_some, List.cons_append, List.nil_append, List.length_cons, List.length_nil, Nat.reduceAdd, Nat.zero_add, Nat.reduceLT, Nat.reduceEqDiff, decide_true, decide_false, Bool.and_self, Bool.and_true, Bool.true_and, ↓reduceIte, List.set_cons_zero, List.set_cons_succ, Nat.reduceSub, Nat.add_left_cancel_iff, Nat.add_eq_left, Nat.left_eq_add, not_true_eq_false, not_false_eq_true, reduceCtorEq, i10, i01, ib10, ib01, beq_self_eq_true, eq_self, Int32.reduceLT, Int32.reduceToNatClampNeg, Int32.reduceAdd, Int32.reduceSub, Int32.reduceMul, Bool.or_true, Bool.true_or, Bool.or_false, Bool.false_or, Nat.reduceBEq, Nat.reduceMul, h1, h6, hs]
  rw [s1, e1, s2, e2]
/-- both ways tell the same -/
theorem way_eq (hI : RI k r) (h3 : r 3 = nI S) (hS : S ≤ 20) {j : Nat} (hj : j ≤ S) : mD r (mB r j) (mA r S j) = mD r (r 44 + lns r 0 S) (r 49) := by
  obtain ⟨R, b0, b1, e0, h2, h60, e44, e49, hb0, hb1⟩ := hI.beg
  obtain ⟨m, em, hm⟩ := hI.lnb h3 hS j 0 (by omega)
  obtain ⟨c, ec, hc⟩ := hI.lnb h3 hS (S - j) j (by omega)
  have hm2 : m < 2 ^ 17 := by have : 65 * j ≤ 65 * 20 := Nat.mul_le_mul_left _ (by omega); omega
  have hc2 : c < 2 ^ 17 := by have : 65 * (S - j) ≤ 65 * 20 := Nat.mul_le_mul_left _ (by omega); omega
  have ea := lns_app r 0 j (S - j)
  rw [show j + (S - j) = S by omega, Nat.zero_add, em, ec] at ea
  have e : lo (mB r j - mA r S j) (r 0) = lo (r 44 + lns r 0 S - r 49) (r 0) := by
    unfold mB mA
    rw [ea, em, ec, e44, e49, e0, show nI b0 + nI m = nI (b0 + m) from nI_add _ _]
    have k1 : -2 ^ 20 < (lo (nI b1 - nI c) (nI R)).toInt ∧ (lo (nI b1 - nI c) (nI R)).toInt < 2 ^ 20 := by
      obtain ⟨n, n1, n2⟩ := lo_nat (nI b1 - nI c) (R := R) (by omega) (by omega)
      rw [n2]
      exact nI_b (by omega)
    rw [lo_sub2 (by omega) (by omega) (nI_b (by omega)) k1, lo_sub (by omega) (by omega) (nI_b (by omega)) (nI_sb (by omega) (by omega))]
    congr 1
    rw [show nI (b0 + m) = nI b0 + nI m from (nI_add _ _).symm]
    generalize nI b0 = x
    generalize nI b1 = y
    generalize nI c = z
    generalize nI m = w
    grind
  unfold mD
  rw [e]
end
section
variable {a k S j : Nat} {σ : AS}
theorem c_ifMet0 (i w : Int32) (hi : bw i 0 (σ.1 3 - 1) = 0 ∨ i = 0) : cEq 61 a [.int i, .int w] σ (-1) σ := by
  refine cEq.same fun h hC => ?_
  obtain ⟨k1, k2, k3, k4, k5, k6, k7, k8⟩ := hC; unfold CO at k1; obtain ⟨S', q, ri, tr, ft, hA, hR⟩ := k2; have hH := hA.1; have hs := hA.2.1.1
  have e0 := p_has i hA.2.1
  rw [hR.i3, has_bw _ hR.1, ← hR.2.1] at e0
  by_cases hz : i = 0
  · simp only [c61, q61_0, q61_1, q61_4, q61_5, q61_8, q61_11, q61_12, q61_15, q61_18, q61_19, q61_20, q61_21, q61_48, q61_49, q61_52, q61_53, q61_56, q61_57, q61_58, q61_61, q61_64, q61_65, q61_67, rv_v, rv_n, rh_v, mu_at, isF_r, isK_r, fld_r, fset_r, gd0, gd1, gd2, gd3, gd4, gd5, gd6, gd7, gd8, gd9, gd10, gd11, gd12, gd13, inA_l, inW_l, inZ_l, inQ_l, aget_l, aset_l, qget_l, qset_l, isA_l, isA_q, alen_l, k2_i, k2_a, k2_n, k2_u, k2_l, ite_si, Option.isSome_some, List.cons_append, List.nil_append, List.length_cons, List.length_nil, Nat.reduceAdd, Nat.zero_add, Nat.reduceLT, Nat.reduceEqDiff, decide_true, decide_false, Bool.and_self, Bool.and_true, Bool.true_and, ↓reduceIte, List.set_cons_zero, List.set_cons_succ, Nat.reduceSub, Nat.add_left_cancel_iff, Nat.add_eq_left, Nat.left_eq_add, not_true_eq_false, not_false_eq_true, reduceCtorEq, i10, i01, ib10, ib01, beq_self_eq_true, eq_self, Int32.reduceLT, Int32.reduceToNatClampNeg, Int32.reduceAdd, Int32.reduceSub, Int32.reduceMul, Bool.or_true, Bool.true_or, Bool.or_false, Bool.false_or, Nat.reduceBEq, Nat.reduceMul, k1, hH, hs, if_pos hz]
  · rw [hi.resolve_right hz] at e0
    simp only [c61, q61_0, q61_1, q61_4, q61_5, q61_8, q61_11, q61_12, q61_15, q61_18, q61_19, q61_20, q61_21, q61_48, q61_49, q61_52, q61_53, q61_56, q61_57, q61_58, q61_61, q61_64, q61_65, q61_67, rv_v, rv_n, rh_v, mu_at, isF_r, isK_r, fld_r, fset_r, gd0, gd1, gd2, gd3, gd4, gd5, gd6, gd7, gd8, gd9, gd10, gd11, gd12, gd13, inA_l, inW_l, inZ_l, inQ_l, aget_l, aset_l, qget_l, qset_l, isA_l, isA_q, alen_l, k2_i, k2_a, k2_n, k2_u, k2_l, ite_si, Option.isSome_some, List.cons_append, List.nil_append, List.length_cons, List.length_nil, Nat.reduceAdd, Nat.zero_add, Nat.reduceLT, Nat.reduceEqDiff, decide_true, decide_false, Bool.and_self, Bool.and_true, Bool.true_and, ↓reduceIte, List.set_cons_zero, List.set_cons_succ, Nat.reduceSub, Nat.add_left_cancel_iff, Nat.add_eq_left, Nat.left_eq_add, not_true_eq_false, not_false_eq_true, reduceCtorEq, i10, i01, ib10, ib01, beq_self_eq_true, eq_self, Int32.reduceLT, Int32.reduceToNatClampNeg, Int32.reduceAdd, Int32.reduceSub, Int32.reduceMul, Bool.or_true, Bool.true_or, Bool.or_false, Bool.false_or, Nat.reduceBEq, Nat.reduceMul, k1, hH, hs, if_neg hz, e0]
theorem c_ifMet1 (i w : Int32) (hi : ¬ bw i 0 (σ.1 3 - 1) = 0) (h0 : ¬ i = 0) (hw : bw w 0 1 = 0) : cEq 61 a [.int i, .int w] σ (-2) σ := by
  refine cEq.same fun h hC => ?_
  obtain ⟨k1, k2, k3, k4, k5, k6, k7, k8⟩ := hC; unfold CO at k1; obtain ⟨S', q, ri, tr, ft, hA, hR⟩ := k2; have hH := hA.1; have hs := hA.2.1.1
  have e0 := p_has i hA.2.1
  rw [hR.i3, has_bw _ hR.1, ← hR.2.1] at e0
  have n0 : (w = 0) = False := bw_out (n := 1) (by omega) hw 0 (by omega)
  have n1 : (w = 1) = False := bw_out (n := 1) (by omega) hw 1 (by omega)
  simp only [c61, q61_0, q61_1, q61_4, q61_5, q61_8, q61_11, q61_12, q61_15, q61_18, q61_19, q61_20, q61_21, q61_48, q61_49, q61_52, q61_53, q61_56, q61_57, q61_58, q61_61, q61_64, q61_65, q61_67, rv_v, rv_n, rh_v, mu_at, isF_r, isK_r, fld_r, fset_r, gd0, gd1, gd2, gd3, gd4, gd5, gd6, gd7, gd8, gd9, gd10, gd11, gd12, gd13, inA_l, inW_l, inZ_l, inQ_l, aget_l, aset_l, qget_l, qset_l, isA_l, isA_q, alen_l, k2_i, k2_a, k2_n, k2_u, k2_l, ite_si, Option.isSome_some, List.cons_append, List.nil_append, List.length_cons, List.length_nil, Nat.reduceAdd, Nat.zero_add, Nat.reduceLT, Nat.reduceEqDiff, decide_true, decide_false, Bool.and_self, Bool.and_true, Bool.true_and, ↓reduceIte, List.set_cons_zero, List.set_cons_succ, Nat.reduceSub, Nat.add_left_cancel_iff, Nat.add_eq_left, Nat.left_eq_add, not_true_eq_false, not_false_eq_true, reduceCtorEq, i10, i01, ib10, ib01, beq_self_eq_true, eq_self, Int32.reduceLT, Int32.reduceToNatClampNeg, Int32.reduceAdd, Int32.reduceSub, Int32.reduceMul, Bool.or_true, Bool.true_or, Bool.or_false, Bool.false_or, Nat.reduceBEq, Nat.reduceMul, k1, hH, hs, if_neg h0, e0, if_neg hi, n0, n1]
theorem c_ifMet2 (w : Int32) (hj : j < S) (hj0 : 0 < j) (hS : S ≤ 20) (h3 : σ.1 3 = nI S) (hI : RI k σ.1) (hw : ¬ bw w 0 1 = 0) : cEq 61 a [.int (nI j), .int w] σ (mD σ.1 (mB σ.1 j) (mA σ.1 S j)) σ := by
  refine cEq.same fun h hC => ?_
  obtain ⟨k1, k2, k3, k4, k5, k6, k7, k8⟩ := hC; unfold CO at k1; obtain ⟨S', q, ri, tr, ft, hA, hR⟩ := k2; have hH := hA.1; have hs := hA.2.1.1
  obtain rfl : S = S' := (nI_eq (by omega) (by have := hR.1; omega)).mp (h3.symm.trans hR.2.1)
  have e0 := p_has (nI j) hA.2.1; rw [hR.i3, if_neg (nI_pos (show j < 2 ^ 31 by omega)), if_pos (nI_lt hj (show S < 2 ^ 31 by omega))] at e0
  have hz : ¬ nI j = 0 := nI_ne0 hj0 (by omega)
  rcases bw01 hw with rfl | rfl
  · have e1 := p_sbs hA hR hI (show j ≤ S by omega)
    simp only [c61, q61_0, q61_1, q61_4, q61_5, q61_8, q61_11, q61_12, q61_15, q61_18, q61_19, q61_20, q61_21, q61_48, q61_49, q61_52, q61_53, q61_56, q61_57, q61_58, q61_61, q61_64, q61_65, q61_67, rv_v, rv_n, rh_v, mu_at, isF_r, isK_r, fld_r, fset_r, gd0, gd1, gd2, gd3, gd4, gd5, gd6, gd7, gd8, gd9, gd10, gd11, gd12, gd13, inA_l, inW_l, inZ_l, inQ_l, aget_l, aset_l, qget_l, qset_l, isA_l, isA_q, alen_l, k2_i, k2_a, k2_n, k2_u, k2_l, ite_si, Option.isSome_some, List.cons_append, List.nil_append, List.length_cons, List.length_nil, Nat.reduceAdd, Nat.zero_add, Nat.reduceLT, Nat.reduceEqDiff, decide_true, decide_false, Bool.and_self, Bool.and_true, Bool.true_and, ↓reduceIte, List.set_cons_zero, List.set_cons_succ, Nat.reduceSub, Nat.add_left_cancel_iff, Nat.add_eq_left, Nat.left_eq_add, not_true_eq_false, not_false_eq_true, reduceCtorEq, i10, i01, ib10, ib01, beq_self_eq_true, eq_self, Int32.reduceLT, Int32.reduceToNatClampNeg, Int32.reduceAdd, Int32.reduceSub, Int32.reduceMul, Bool.or_true, Bool.true_or, Bool.or_false, Bool.false_or, Nat.reduceBEq, Nat.reduceMul, k1, hH, hs, if_neg hz, e0, e1]
  · have e1 := p_atOnce hA
    rw [dO_mD hR.i0, hR.i3, hR.i4, hR.i9, hR.fo (Nat.le_refl _), ← way_eq hI h3 hS (show j ≤ S by omega)] at e1
    simp only [c61, q61_0, q61_1, q61_4, q61_5, q61_8, q61_11, q61_12, q61_15, q61_18, q61_19, q61_20, q61_21, q61_48, q61_49, q61_52, q61_53, q61_56, q61_57, q61_58, q61_61, q61_64, q61_65, q61_67, rv_v, rv_n, rh_v, mu_at, isF_r, isK_r, fld_r, fset_r, gd0, gd1, gd2, gd3, gd4, gd5, gd6, gd7, gd8, gd9, gd10, gd11, gd12, gd13, inA_l, inW_l, inZ_l, inQ_l, aget_l, aset_l, qget_l, qset_l, isA_l, isA_q, alen_l, k2_i, k2_a, k2_n, k2_u, k2_l, ite_si, Option.isSome_some, List.cons_append, List.nil_append, List.length_cons, List.length_nil, Nat.reduceAdd, Nat.zero_add, Nat.reduceLT, Nat.reduceEqDiff, decide_true, decide_false, Bool.and_self, Bool.and_true, Bool.true_and, ↓reduceIte, List.set_cons_zero, List.set_cons_succ, Nat.reduceSub, Nat.add_left_cancel_iff, Nat.add_eq_left, Nat.left_eq_add, not_true_eq_false, not_false_eq_true, reduceCtorEq, i10, i01, ib10, ib01, beq_self_eq_true, eq_self, Int32.reduceLT, Int32.reduceToNatClampNeg, Int32.reduceAdd, Int32.reduceSub, Int32.reduceMul, Bool.or_true, Bool.true_or, Bool.or_false, Bool.false_or, Nat.reduceBEq, Nat.reduceMul, k1, hH, hs, if_neg hz, e0, z1_0, e1]
end
