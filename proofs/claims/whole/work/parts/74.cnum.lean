theorem p_codeOf {h : xH} {p : Nat} {L : List Int32} (hP : Pd h.2 p L) {s : Nat} (hs : s < 1000) : cl 38 [.ref p, .int (nI s)] h = some (some (.int (sg L s)), h) := by
  obtain ⟨h1, hl, cf, h2, hA⟩ := hP
  by_cases hc : s < L.length
  · have c1 : nI s < nI L.length := nI_lt hc (by omega)
    have e := p_numberAt (h := h) (i := nI s) h2 (by decide)
    rw [na_nI (by omega) (by decide), hA s (L[s]'hc) (List.getElem?_eq_getElem hc)] at e
    have es : sg L s = L[s]'hc := by unfold sg; rw [List.getElem?_eq_getElem hc]; rfl
    rw [← es] at e
    simp only [c38, q38_0, q38_1, q38_2, q38_5, q38_8, q38_9, q38_12, q38_13, q38_16, q38_19, q38_20, rv_v, rv_n, rh_v, mu_at, isF_r, isK_r, fld_r, fset_r, gd0, gd1, gd2, gd3, gd4, gd5, gd6, gd7, gd8, gd9, gd10, gd11, gd12, gd13, inA_l, inW_l, inZ_l, inQ_l, aget_l, aset_l, qget_l, qset_l, isA_l, isA_q, alen_l, k2_i, k2_a, k2_n, k2_u, k2_l, ite_si, Option.isSome_some, List.cons_append, List.nil_append, List.length_cons, List.length_nil, Nat.reduceAdd, Nat.zero_add, Nat.reduceLT, Nat.reduceEqDiff, decide_true, decide_false, Bool.and_self, Bool.and_true, Bool.true_and, ↓reduceIte, List.set_cons_zero, List.set_cons_succ, Nat.reduceSub, Nat.add_left_cancel_iff, Nat.add_eq_left, Nat.left_eq_add, not_true_eq_false, not_false_eq_true, reduceCtorEq, i10, i01, ib10, ib01, beq_self_eq_true, eq_self, Int32.reduceLT, Int32.reduceToNatClampNeg, Int32.reduceAdd, Int32.reduceSub, Int32.reduceMul, Bool.or_true, Bool.true_or, Bool.or_false, Bool.false_or, Nat.reduceBEq, Nat.reduceMul, h1, if_pos c1, e]
  · have c1 : ¬ nI s < nI L.length := nI_nlt (by omega) (by omega)
    have es : sg L s = 0 := by unfold sg; rw [List.getElem?_eq_none (by omega)]; rfl
    rw [es]
    simp only [c38, q38_0, q38_1, q38_2, q38_5, q38_8, q38_9, q38_12, q38_13, q38_16, q38_19, q38_20, rv_v, rv_n, rh_v, mu_at, isF_r, isK_r, fld_r, fset_r, gd0, gd1, gd2, gd3, gd4, gd5, gd6, gd7, gd8, gd9, gd10, gd11, gd12, gd13, inA_l, inW_l, inZ_l, inQ_l, aget_l, aset_l, qget_l, qset_l, isA_l, isA_q, alen_l, k2_i, k2_a, k2_n, k2_u, k2_l, ite_si, Option.isSome_some, List.cons_append, List.nil_append, List.length_cons, List.length_nil, Nat.reduceAdd, Nat.zero_add, Nat.reduceLT, Nat.reduceEqDiff, decide_true, decide_false, Bool.and_self, Bool.and_true, Bool.true_and, ↓reduceIte, List.set_cons_zero, List.set_cons_succ, Nat.reduceSub, Nat.add_left_cancel_iff, Nat.add_eq_left, Nat.left_eq_add, not_true_eq_false, not_false_eq_true, reduceCtorEq, i10, i01, ib10, ib01, beq_self_eq_true, eq_self, Int32.reduceLT, Int32.reduceToNatClampNeg, Int32.reduceAdd, Int32.reduceSub, Int32.reduceMul, Bool.or_true, Bool.true_or, Bool.or_false, Bool.false_or, Nat.reduceBEq, Nat.reduceMul, h1, if_neg c1]
def cB (n least most : Int32) : Int32 := if 0 < n then (if bw n least most = 0 then (if most < n * 10 then 0 else if n * 10 + 9 < least then 0 else 1) else 1) else 0
theorem p_canBecome (n least most : Int32) (h : xH) : cl 45 [.int n, .int least, .int most] h = some (some (.int (cB n least most)), h) := by
  simp only [c45, q45_0, q45_1, q45_4, q45_5, q45_6, q45_7, q45_10, q45_13, q45_14, q45_16, q45_17, q45_18, q45_21, q45_22, q45_24, q45_25, q45_27, q45_28, q45_29, q45_32, q45_33, q45_36, q45_37, rv_v, rv_n, rh_v, mu_at, isF_r, isK_r, fld_r, fset_r, gd0, gd1, gd2, gd3, gd4, gd5, gd6, gd7, gd8, gd9, gd10, gd11, gd12, gd13, inA_l, inW_l, inZ_l, inQ_l, aget_l, aset_l, qget_l, qset_l, isA_l, isA_q, alen_l, k2_i, k2_a, k2_n, k2_u, k2_l, ite_si, Option.isSome_some, List.cons_append, List.nil_append, List.length_cons, List.length_nil, Nat.reduceAdd, Nat.zero_add, Nat.reduceLT, Nat.reduceEqDiff, decide_true, decide_false, Bool.and_self, Bool.and_true, Bool.true_and, ↓reduceIte, List.set_cons_zero, List.set_cons_succ, Nat.reduceSub, Nat.add_left_cancel_iff, Nat.add_eq_left, Nat.left_eq_add, not_true_eq_false, not_false_eq_true, reduceCtorEq, i10, i01, ib10, ib01, beq_self_eq_true, eq_self, Int32.reduceLT, Int32.reduceToNatClampNeg, Int32.reduceAdd, Int32.reduceSub, Int32.reduceMul, Bool.or_true, Bool.true_or, Bool.or_false, Bool.false_or, Nat.reduceBEq, Nat.reduceMul, p_isWithin, cB]
/-- a number of two digits at the most: what it is, and how long -/
def rN (least most c1 c2 : Int32) : Int32 × Nat :=
  if bw c1 48 57 = 0 then (0, 0) else if cB (c1 - 48) least most = 0 then (0, 0) else if bw c2 48 57 = 0 then (c1 - 48, 1) else if cB ((c1 - 48) * 10 + c2 - 48) least most = 0 then (c1 - 48, 1) else ((c1 - 48) * 10 + c2 - 48, 2)
section
variable {a s : Nat} {w : Int32} {L : List Int32} {z : Nat × Nat} {m : xM}
theorem Pd.pl {x : va_E} (h : Pd m (a + 75) L) : Pd (mu m (a + 77) x) (a + 75) L := h.fr (fun y q1 q2 => mu_n _ _ (by omega))
theorem p_signY {c : Int32} (hc : sg L s = c) (hs : s ≤ L.length) (hP : Pd m (a + 75) L) : cl 43 [.ref (a + 77), .ref (a + 75), .int c] (z, mu m (a + 77) (.inr (4, [.ref (a + 77 + 1), .int w, .int (nI (s))]))) = some (some (.int 1), (z, mu m (a + 77) (.inr (4, [.ref (a + 77 + 1), .int w, .int (nI (s + 1))])))) := by
  have hl := hP.2.1
  have e := p_codeOf (h := (z, mu m (a + 77) (.inr (4, [.ref (a + 77 + 1), .int w, .int (nI (s))])))) hP.pl (show s < 1000 by omega)
  rw [hc] at e
  have hp := hP.1
  simp only [c43, q43_0, q43_0N, q43_1, q43_2, q43_5, q43_8, q43_9, q43_12, q43_13, q43_14, q43_15, q43_16, q43_19, q43_20, q43_21, q43_24, q43_25, rv_v, rv_n, rh_v, mu_at, isF_r, isK_r, fld_r, fset_r, gd0, gd1, gd2, gd3, gd4, gd5, gd6, gd7, gd8, gd9, gd10, gd11, gd12, gd13, inA_l, inW_l, inZ_l, inQ_l, aget_l, aset_l, qget_l, qset_l, isA_l, isA_q, alen_l, k2_i, k2_a, k2_n, k2_u, k2_l, ite_si, Option.isSome_some, List.cons_append, List.nil_append, List.length_cons, List.length_nil, Nat.reduceAdd, Nat.zero_add, Nat.reduceLT, Nat.reduceEqDiff, decide_true, decide_false, Bool.and_self, Bool.and_true, Bool.true_and, ↓reduceIte, List.set_cons_zero, List.set_cons_succ, Nat.reduceSub, Nat.add_left_cancel_iff, Nat.add_eq_left, Nat.left_eq_add, not_true_eq_false, not_false_eq_true, reduceCtorEq, i10, i01, ib10, ib01, beq_self_eq_true, eq_self, Int32.reduceLT, Int32.reduceToNatClampNeg, Int32.reduceAdd, Int32.reduceSub, Int32.reduceMul, Bool.or_true, Bool.true_or, Bool.or_false, Bool.false_or, Nat.reduceBEq, Nat.reduceMul, hp, e, mu_mu, nI_1, mu_s]
theorem p_signN {c : Int32} (hc : ¬ sg L s = c) (hs : s ≤ L.length) (hP : Pd m (a + 75) L) : cl 43 [.ref (a + 77), .ref (a + 75), .int c] (z, mu m (a + 77) (.inr (4, [.ref (a + 77 + 1), .int w, .int (nI (s))]))) = some (some (.int 0), (z, mu m (a + 77) (.inr (4, [.ref (a + 77 + 1), .int w, .int (nI (s))])))) := by
  have hl := hP.2.1
  have e := p_codeOf (h := (z, mu m (a + 77) (.inr (4, [.ref (a + 77 + 1), .int w, .int (nI (s))])))) hP.pl (show s < 1000 by omega)
  have hp := hP.1
  simp only [c43, q43_0, q43_0N, q43_1, q43_2, q43_5, q43_8, q43_9, q43_12, q43_13, q43_14, q43_15, q43_16, q43_19, q43_20, q43_21, q43_24, q43_25, rv_v, rv_n, rh_v, mu_at, isF_r, isK_r, fld_r, fset_r, gd0, gd1, gd2, gd3, gd4, gd5, gd6, gd7, gd8, gd9, gd10, gd11, gd12, gd13, inA_l, inW_l, inZ_l, inQ_l, aget_l, aset_l, qget_l, qset_l, isA_l, isA_q, alen_l, k2_i, k2_a, k2_n, k2_u, k2_l, ite_si, Option.isSome_some, List.cons_append, List.nil_append, List.length_cons, List.length_nil, Nat.reduceAdd, Nat.zero_add, Nat.reduceLT, Nat.reduceEqDiff, decide_true, decide_false, Bool.and_self, Bool.and_true, Bool.true_and, ↓reduceIte, List.set_cons_zero, List.set_cons_succ, Nat.reduceSub, Nat.add_left_cancel_iff, Nat.add_eq_left, Nat.left_eq_add, not_true_eq_false, not_false_eq_true, reduceCtorEq, i10, i01, ib10, ib01, beq_self_eq_true, eq_self, Int32.reduceLT, Int32.reduceToNatClampNeg, Int32.reduceAdd, Int32.reduceSub, Int32.reduceMul, Bool.or_true, Bool.true_or, Bool.or_false, Bool.false_or, Nat.reduceBEq, Nat.reduceMul, hp, e, hc, mu_s]
theorem p_readNum (least most : Int32) (hs : s ≤ L.length) (hP : Pd m (a + 75) L) : cl 44 [.ref (a + 77), .ref (a + 75), .int least, .int most] (z, mu m (a + 77) (.inr (4, [.ref (a + 77 + 1), .int w, .int (nI (s))]))) = some (some (.int (rN least most (sg L s) (sg L (s + 1))).1), (z, mu m (a + 77) (.inr (4, [.ref (a + 77 + 1), .int w, .int (nI (s + (rN least most (sg L s) (sg L (s + 1))).2))])))) := by
  have hl := hP.2.1
  have e1 := p_codeOf (h := (z, mu m (a + 77) (.inr (4, [.ref (a + 77 + 1), .int w, .int (nI (s))])))) hP.pl (show s < 1000 by omega)
  have e2 := p_codeOf (h := (z, mu m (a + 77) (.inr (4, [.ref (a + 77 + 1), .int w, .int (nI (s + 1))])))) hP.pl (show s + 1 < 1000 by omega)
  have q1 := hP.1
  have ez : ∀ x : Int32, (0 : Int32) + x = x := Int32.zero_add
  unfold rN
  by_cases ca : bw (sg L s) 48 57 = 0
  · rw [if_pos ca]
    simp only [c44, q44_0, q44_1, q44_3, q44_4, q44_6, q44_8, q44_9, q44_12, q44_12N, q44_13, q44_14, q44_17, q44_20, q44_22, q44_24, q44_26, q44_28, q44_31, q44_34, q44_36, q44_38, q44_39, q44_41, q44_42, q44_44, q44_45, q44_46, q44_47, q44_50, q44_53, q44_55, q44_56, q44_58, q44_60, q44_61, q44_63, q44_64, q44_66, q44_67, q44_69, q44_70, q44_71, q44_74, q44_75, q44_76, q44_79, q44_82, q44_85, q44_87, rv_v, rv_n, rh_v, mu_at, isF_r, isK_r, fld_r, fset_r, gd0, gd1, gd2, gd3, gd4, gd5, gd6, gd7, gd8, gd9, gd10, gd11, gd12, gd13, inA_l, inW_l, inZ_l, inQ_l, aget_l, aset_l, qget_l, qset_l, isA_l, isA_q, alen_l, k2_i, k2_a, k2_n, k2_u, k2_l, ite_si, Option.isSome_some, List.cons_append, List.nil_append, List.length_cons, List.length_nil, Nat.reduceAdd, Nat.zero_add, Nat.reduceLT, Nat.reduceEqDiff, decide_true, decide_false, Bool.and_self, Bool.and_true, Bool.true_and, ↓reduceIte, List.set_cons_zero, List.set_cons_succ, Nat.reduceSub, Nat.add_left_cancel_iff, Nat.add_eq_left, Nat.left_eq_add, not_true_eq_false, not_false_eq_true, reduceCtorEq, i10, i01, ib10, ib01, beq_self_eq_true, eq_self, Int32.reduceLT, Int32.reduceToNatClampNeg, Int32.reduceAdd, Int32.reduceSub, Int32.reduceMul, Bool.or_true, Bool.true_or, Bool.or_false, Bool.false_or, Nat.reduceBEq, Nat.reduceMul, q1, e1, p_isWithin, if_pos ca, mu_s, Nat.add_zero]
  · rw [if_neg ca]
    by_cases cb : cB (sg L s - 48) least most = 0
    · rw [if_pos cb]
      simp only [c44, q44_0, q44_1, q44_3, q44_4, q44_6, q44_8, q44_9, q44_12, q44_12N, q44_13, q44_14, q44_17, q44_20, q44_22, q44_24, q44_26, q44_28, q44_31, q44_34, q44_36, q44_38, q44_39, q44_41, q44_42, q44_44, q44_45, q44_46, q44_47, q44_50, q44_53, q44_55, q44_56, q44_58, q44_60, q44_61, q44_63, q44_64, q44_66, q44_67, q44_69, q44_70, q44_71, q44_74, q44_75, q44_76, q44_79, q44_82, q44_85, q44_87, rv_v, rv_n, rh_v, mu_at, isF_r, isK_r, fld_r, fset_r, gd0, gd1, gd2, gd3, gd4, gd5, gd6, gd7, gd8, gd9, gd10, gd11, gd12, gd13, inA_l, inW_l, inZ_l, inQ_l, aget_l, aset_l, qget_l, qset_l, isA_l, isA_q, alen_l, k2_i, k2_a, k2_n, k2_u, k2_l, ite_si, Option.isSome_some, List.cons_append, List.nil_append, List.length_cons, List.length_nil, Nat.reduceAdd, Nat.zero_add, Nat.reduceLT, Nat.reduceEqDiff, decide_true, decide_false, Bool.and_self, Bool.and_true, Bool.true_and, ↓reduceIte, List.set_cons_zero, List.set_cons_succ, Nat.reduceSub, Nat.add_left_cancel_iff, Nat.add_eq_left, Nat.left_eq_add, not_true_eq_false, not_false_eq_true, reduceCtorEq, i10, i01, ib10, ib01, beq_self_eq_true, eq_self, Int32.reduceLT, Int32.reduceToNatClampNeg, Int32.reduceAdd, Int32.reduceSub, Int32.reduceMul, Bool.or_true, Bool.true_or, Bool.or_false, Bool.false_or, Nat.reduceBEq, Nat.reduceMul, q1, e1, p_isWithin, if_neg ca, mu_s, ez, p_canBecome, if_pos cb, Nat.add_zero]
    · rw [if_neg cb]
      by_cases cc : bw (sg L (s + 1)) 48 57 = 0
      · rw [if_pos cc]
        simp only [c44, q44_0, q44_1, q44_3, q44_4, q44_6, q44_8, q44_9, q44_12, q44_12N, q44_13, q44_14, q44_17, q44_20, q44_22, q44_24, q44_26, q44_28, q44_31, q44_34, q44_36, q44_38, q44_39, q44_41, q44_42, q44_44, q44_45, q44_46, q44_47, q44_50, q44_53, q44_55, q44_56, q44_58, q44_60, q44_61, q44_63, q44_64, q44_66, q44_67, q44_69, q44_70, q44_71, q44_74, q44_75, q44_76, q44_79, q44_82, q44_85, q44_87, rv_v, rv_n, rh_v, mu_at, isF_r, isK_r, fld_r, fset_r, gd0, gd1, gd2, gd3, gd4, gd5, gd6, gd7, gd8, gd9, gd10, gd11, gd12, gd13, inA_l, inW_l, inZ_l, inQ_l, aget_l, aset_l, qget_l, qset_l, isA_l, isA_q, alen_l, k2_i, k2_a, k2_n, k2_u, k2_l, ite_si, Option.isSome_some, List.cons_append, List.nil_append, List.length_cons, List.length_nil, Nat.reduceAdd, Nat.zero_add, Nat.reduceLT, Nat.reduceEqDiff, decide_true, decide_false, Bool.and_self, Bool.and_true, Bool.true_and, ↓reduceIte, List.set_cons_zero, List.set_cons_succ, Nat.reduceSub, Nat.add_left_cancel_iff, Nat.add_eq_left, Nat.left_eq_add, not_true_eq_false, not_false_eq_true, reduceCtorEq, i10, i01, ib10, ib01, beq_self_eq_true, eq_self, Int32.reduceLT, Int32.reduceToNatClampNeg, Int32.reduceAdd, Int32.reduceSub, Int32.reduceMul, Bool.or_true, Bool.true_or, Bool.or_false, Bool.false_or, Nat.reduceBEq, Nat.reduceMul, q1, e1, e2, p_isWithin, if_neg ca, mu_s, ez, p_canBecome, if_neg cb, mu_mu, nI_1, if_pos cc]
      · rw [if_neg cc]
        by_cases cd : cB ((sg L s - 48) * 10 + sg L (s + 1) - 48) least most = 0
        · rw [if_pos cd]
          simp only [c44, q44_0, q44_1, q44_3, q44_4, q44_6, q44_8, q44_9, q44_12, q44_12N, q44_13, q44_14, q44_17, q44_20, q44_22, q44_24, q44_26, q44_28, q44_31, q44_34, q44_36, q44_38, q44_39, q44_41, q44_42, q44_44, q44_45, q44_46, q44_47, q44_50, q44_53, q44_55, q44_56, q44_58, q44_60, q44_61, q44_63, q44_64, q44_66, q44_67, q44_69, q44_70, q44_71, q44_74, q44_75, q44_76, q44_79, q44_82, q44_85, q44_87, rv_v, rv_n, rh_v, mu_at, isF_r, isK_r, fld_r, fset_r, gd0, gd1, gd2, gd3, gd4, gd5, gd6, gd7, gd8, gd9, gd10, gd11, gd12, gd13, inA_l, inW_l, inZ_l, inQ_l, aget_l, aset_l, qget_l, qset_l, isA_l, isA_q, alen_l, k2_i, k2_a, k2_n, k2_u, k2_l, ite_si, Option.isSome_some, List.cons_append, List.nil_append, List.length_cons, List.length_nil, Nat.reduceAdd, Nat.zero_add, Nat.reduceLT, Nat.reduceEqDiff, decide_true, decide_false, Bool.and_self, Bool.and_true, Bool.true_and, ↓reduceIte, List.set_cons_zero, List.set_cons_succ, Nat.reduceSub, Nat.add_left_cancel_iff, Nat.add_eq_left, Nat.left_eq_add, not_true_eq_false, not_false_eq_true, reduceCtorEq, i10, i01, ib10, ib01, beq_self_eq_true, eq_self, Int32.reduceLT, Int32.reduceToNatClampNeg, Int32.reduceAdd, Int32.reduceSub, Int32.reduceMul, Bool.or_true, Bool.true_or, Bool.or_false, Bool.false_or, Nat.reduceBEq, Nat.reduceMul, q1, e1, e2, p_isWithin, if_neg ca, mu_s, ez, p_canBecome, if_neg cb, mu_mu, nI_1, if_neg cc, if_pos cd]
        · rw [if_neg cd]
          simp only [c44, q44_0, q44_1, q44_3, q44_4, q44_6, q44_8, q44_9, q44_12, q44_12N, q44_13, q44_14, q44_17, q44_20, q44_22, q44_24, q44_26, q44_28, q44_31, q44_34, q44_36, q44_38, q44_39, q44_41, q44_42, q44_44, q44_45, q44_46, q44_47, q44_50, q44_53, q44_55, q44_56, q44_58, q44_60, q44_61, q44_63, q44_64, q44_66, q44_67, q44_69, q44_70, q44_71, q44_74, q44_75, q44_76, q44_79, q44_82, q44_85, q44_87, rv_v, rv_n, rh_v, mu_at, isF_r, isK_r, fld_r, fset_r, gd0, gd1, gd2, gd3, gd4, gd5, gd6, gd7, gd8, gd9, gd10, gd11, gd12, gd13, inA_l, inW_l, inZ_l, inQ_l, aget_l, aset_l, qget_l, qset_l, isA_l, isA_q, alen_l, k2_i, k2_a, k2_n, k2_u, k2_l, ite_si, Option.isSome_some, List.cons_append, List.nil_append, List.length_cons, List.length_nil, Nat.reduceAdd, Nat.zero_add, Nat.reduceLT, Nat.reduceEqDiff, decide_true, decide_false, Bool.and_self, Bool.and_true, Bool.true_and, ↓reduceIte, List.set_cons_zero, List.set_cons_succ, Nat.reduceSub, Nat.add_left_cancel_iff, Nat.add_eq_left, Nat.left_eq_add, not_true_eq_false, not_false_eq_true, reduceCtorEq, i10, i01, ib10, ib01, beq_self_eq_true, eq_self, Int32.reduceLT, Int32.reduceToNatClampNeg, Int32.reduceAdd, Int32.reduceSub, Int32.reduceMul, Bool.or_true, Bool.true_or, Bool.or_false, Bool.false_or, Nat.reduceBEq, Nat.reduceMul, q1, e1, e2, p_isWithin, if_neg ca, mu_s, ez, p_canBecome, if_neg cb, mu_mu, nI_1, if_neg cc, if_neg cd]
end
/-! the class and the model read the same numbers: digit by digit -/
def nE (least most lo' hi' one c1 c2 : Int32) : Prop := rN least most c1 c2 = ((rd lo' hi' one c1 c2).1, (rd lo' hi' one c1 c2).2.1)
theorem nE_out {least most lo' hi' one c1 : Int32} (h : bw c1 48 57 = 0) (c2 : Int32) : nE least most lo' hi' one c1 c2 := by
  have h2 : bw c1 49 57 = 0 := by
    unfold bw at h ⊢
    by_cases a1 : c1 < 48
    · rw [if_pos]
      rw [Int32.lt_iff_toInt_lt] at a1 ⊢
      have a1 : c1.toInt < 48 := a1
      show c1.toInt < 49
      omega
    · rw [if_neg a1] at h
      by_cases a2 : c1 < 49
      · rw [if_pos a2]
      · rw [if_neg a2]; exact h
  unfold nE rN rd
  rw [if_pos h, if_pos h2]
theorem rN_c2 {least most c1 c2 : Int32} (h : bw c2 48 57 = 0) : rN least most c1 c2 = rN least most c1 0 := by
  unfold rN
  rw [if_pos h, if_pos (show bw 0 48 57 = 0 by decide)]
theorem rd_c2 {lo' hi' one c1 c2 : Int32} (h : bw c2 48 57 = 0) : rd lo' hi' one c1 c2 = rd lo' hi' one c1 0 := by
  unfold rd rd2
  rw [if_pos h, if_pos (show bw 0 48 57 = 0 by decide)]
theorem nE_all {least most lo' hi' one : Int32} (t1 : ∀ d, d < 10 → rN least most (nI (48 + d)) 0 = ((rd lo' hi' one (nI (48 + d)) 0).1, (rd lo' hi' one (nI (48 + d)) 0).2.1)) (t2 : ∀ d, d < 10 → ∀ e, e < 10 → rN least most (nI (48 + d)) (nI (48 + e)) = ((rd lo' hi' one (nI (48 + d)) (nI (48 + e))).1, (rd lo' hi' one (nI (48 + d)) (nI (48 + e))).2.1)) (c1 c2 : Int32) : rN least most c1 c2 = ((rd lo' hi' one c1 c2).1, (rd lo' hi' one c1 c2).2.1) := by
  by_cases h1 : bw c1 48 57 = 0
  · exact nE_out h1 c2
  · obtain ⟨n, rfl, n1, n2⟩ := bwN (a := 48) (c := 57) h1 (by omega) (by omega)
    obtain ⟨d, rfl⟩ : ∃ d, n = 48 + d := ⟨n - 48, by omega⟩
    by_cases h2 : bw c2 48 57 = 0
    · rw [rN_c2 h2, rd_c2 h2]
      exact t1 d (by omega)
    · obtain ⟨n', rfl, n3, n4⟩ := bwN (a := 48) (c := 57) h2 (by omega) (by omega)
      obtain ⟨e, rfl⟩ : ∃ e, n' = 48 + e := ⟨n' - 48, by omega⟩
      exact t2 d (by omega) e (by omega)
theorem nE_1 : ∀ c1 c2, rN 2 25 c1 c2 = ((rd 10 25 1 c1 c2).1, (rd 10 25 1 c1 c2).2.1) := nE_all (by decide +kernel) (by decide +kernel)
theorem nE_2 : ∀ c1 c2, rN 10 25 c1 c2 = ((rd 10 25 0 c1 c2).1, (rd 10 25 0 c1 c2).2.1) := nE_all (by decide +kernel) (by decide +kernel)
theorem nE_3 : ∀ c1 c2, rN 15 40 c1 c2 = ((rd 15 40 0 c1 c2).1, (rd 15 40 0 c1 c2).2.1) := nE_all (by decide +kernel) (by decide +kernel)
/-- whether a number is right shows in the number itself -/
theorem ok_all {lo' hi' one : Int32} {f : Int32 → Bool} (t0 : f 0 = true) (t1 : ∀ d, d < 10 → (decide ((rd lo' hi' one (nI (48 + d)) 0).2.2 = 0) == f (rd lo' hi' one (nI (48 + d)) 0).1) = true) (t2 : ∀ d, d < 10 → ∀ e, e < 10 → (decide ((rd lo' hi' one (nI (48 + d)) (nI (48 + e))).2.2 = 0) == f (rd lo' hi' one (nI (48 + d)) (nI (48 + e))).1) = true) (c1 c2 : Int32) : (rd lo' hi' one c1 c2).2.2 = 0 ↔ f (rd lo' hi' one c1 c2).1 = true := by
  by_cases h1 : bw c1 48 57 = 0
  · have h2 : bw c1 49 57 = 0 := by
      unfold bw at h1 ⊢
      by_cases a1 : c1 < 48
      · rw [if_pos]
        rw [Int32.lt_iff_toInt_lt] at a1 ⊢
        have a1 : c1.toInt < 48 := a1
        show c1.toInt < 49
        omega
      · rw [if_neg a1] at h1
        by_cases a2 : c1 < 49
        · rw [if_pos a2]
        · rw [if_neg a2]; exact h1
    unfold rd
    rw [if_pos h2]
    exact ⟨fun _ => t0, fun _ => rfl⟩
  · obtain ⟨n, rfl, n1, n2⟩ := bwN (a := 48) (c := 57) h1 (by omega) (by omega)
    obtain ⟨d, rfl⟩ : ∃ d, n = 48 + d := ⟨n - 48, by omega⟩
    by_cases h2 : bw c2 48 57 = 0
    · rw [rd_c2 h2, ← beq_iff_eq.mp (t1 d (by omega)), decide_eq_true_iff]
    · obtain ⟨n', rfl, n3, n4⟩ := bwN (a := 48) (c := 57) h2 (by omega) (by omega)
      obtain ⟨e, rfl⟩ : ∃ e, n' = 48 + e := ⟨n' - 48, by omega⟩
      rw [← beq_iff_eq.mp (t2 d (by omega) e (by omega)), decide_eq_true_iff]
theorem ok_1 (c1 c2 : Int32) : (rd 10 25 1 c1 c2).2.2 = 0 ↔ decide (bw (rd 10 25 1 c1 c2).1 2 25 = 0) = true := ok_all (f := fun n => decide (bw n 2 25 = 0)) (by decide) (by decide +kernel) (by decide +kernel) c1 c2
theorem ok_2 (c1 c2 : Int32) : (rd 10 25 0 c1 c2).2.2 = 0 ↔ decide (bw (rd 10 25 0 c1 c2).1 10 25 = 0) = true := ok_all (f := fun n => decide (bw n 10 25 = 0)) (by decide) (by decide +kernel) (by decide +kernel) c1 c2
theorem ok_3 (c1 c2 : Int32) : (rd 15 40 0 c1 c2).2.2 = 0 ↔ decide (bw (rd 15 40 0 c1 c2).1 15 40 = 0) = true := ok_all (f := fun n => decide (bw n 15 40 = 0)) (by decide) (by decide +kernel) (by decide +kernel) c1 c2
