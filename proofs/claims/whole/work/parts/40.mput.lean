/-- the i-th code from the last; whether nothing is before it -/
def cA (x : Int64) (i : Int32) : Int32 := ((x.toUInt64 >>> ((8 * i).toInt64.toUInt64 &&& Int64.toUInt64 63)).toInt64 &&& 255).toInt32
def tz (x : Int64) (i : Int32) : Int32 := lg_cmp (x.toUInt64 >>> ((8 * i).toInt64.toUInt64 &&& Int64.toUInt64 63)).toInt64 0
theorem m_codeAt (x : Int64) (i : Int32) (h : xH) : cl 137 [.long x, .int i] h = some (some (.int (cA x i)), h) := by
  simp only [c137, q137_0, q137_1, q137_3, q137_4, q137_5, q137_6, q137_9, q137_10, q137_11, rv_v, rv_n, rh_v, mu_at, isF_r, isK_r, fld_r, fset_r, gd0, gd1, gd2, gd3, gd4, gd5, gd6, gd7, gd8, gd9, gd10, gd11, gd12, gd13, inA_l, inW_l, inZ_l, inQ_l, aget_l, aset_l, qget_l, qset_l, isA_l, isA_q, alen_l, k2_i, k2_a, k2_n, k2_u, k2_l, ite_si, Option.isSome_some, List.cons_append, List.nil_append, List.length_cons, List.length_nil, Nat.reduceAdd, Nat.zero_add, Nat.reduceLT, Nat.reduceEqDiff, decide_true, decide_false, Bool.and_self, Bool.and_true, Bool.true_and, ↓reduceIte, List.set_cons_zero, List.set_cons_succ, Nat.reduceSub, Nat.add_left_cancel_iff, Nat.add_eq_left, Nat.left_eq_add, not_true_eq_false, not_false_eq_true, reduceCtorEq, i10, i01, ib10, ib01, beq_self_eq_true, eq_self, Int32.reduceLT, Int32.reduceToNatClampNeg, Int32.reduceAdd, Int32.reduceSub, Int32.reduceMul, Bool.or_true, Bool.true_or, Bool.or_false, Bool.false_or, Nat.reduceBEq, Nat.reduceMul, cA]
theorem p_codeAt (x : Int64) (i : Int32) (h : xH) : cl 90 [.long x, .int i] h = some (some (.int (cA x i)), h) := by
  simp only [c90, q90_0, q90_1, q90_3, q90_4, q90_5, q90_6, q90_9, q90_10, q90_11, rv_v, rv_n, rh_v, mu_at, isF_r, isK_r, fld_r, fset_r, gd0, gd1, gd2, gd3, gd4, gd5, gd6, gd7, gd8, gd9, gd10, gd11, gd12, gd13, inA_l, inW_l, inZ_l, inQ_l, aget_l, aset_l, qget_l, qset_l, isA_l, isA_q, alen_l, k2_i, k2_a, k2_n, k2_u, k2_l, ite_si, Option.isSome_some, List.cons_append, List.nil_append, List.length_cons, List.length_nil, Nat.reduceAdd, Nat.zero_add, Nat.reduceLT, Nat.reduceEqDiff, decide_true, decide_false, Bool.and_self, Bool.and_true, Bool.true_and, ↓reduceIte, List.set_cons_zero, List.set_cons_succ, Nat.reduceSub, Nat.add_left_cancel_iff, Nat.add_eq_left, Nat.left_eq_add, not_true_eq_false, not_false_eq_true, reduceCtorEq, i10, i01, ib10, ib01, beq_self_eq_true, eq_self, Int32.reduceLT, Int32.reduceToNatClampNeg, Int32.reduceAdd, Int32.reduceSub, Int32.reduceMul, Bool.or_true, Bool.true_or, Bool.or_false, Bool.false_or, Nat.reduceBEq, Nat.reduceMul, cA]
/-- how many codes, from the i-th on; 0 if they are none -/
def sz (x : Int64) (i : Nat) : Nat → Nat
  | 0 => i
  | d + 1 => if cA x (nI i) = 0 then (if tz x (nI i) = 0 then i else 0) else if bw (cA x (nI i)) 33 126 = 0 then 0 else sz x (i + 1) d
theorem sz_le (x : Int64) : ∀ (d i : Nat), sz x i d ≤ i + d
  | 0, _ => Nat.le_refl _
  | d + 1, i => by
    have := sz_le x d (i + 1)
    unfold sz
    split
    · split <;> omega
    · split <;> omega
theorem p_charsLoop (x : Int64) (h : xH) : ∀ (d i : Nat), i + d = 8 → rn 91 2 [.long x, unk, .int (nI i)] [] h = some (some (.int (nI (sz x i d))), h) := by
  intro d
  induction d with
  | zero =>
    intro i hi
    obtain rfl : i = 8 := by omega
    rw [q91_2]
    simp only [q91_0, q91_1, q91_3, q91_5, q91_8, q91_9, q91_10, q91_13, q91_16, q91_17, q91_19, q91_20, q91_21, q91_22, q91_23, q91_24, q91_27, q91_28, q91_31, q91_32, q91_33, q91_34, q91_35, q91_38, q91_40, q91_42, q91_45, q91_48, q91_49, q91_50, q91_53, q91_56, q91_58, rv_v, rv_n, rh_v, mu_at, isF_r, isK_r, fld_r, fset_r, gd0, gd1, gd2, gd3, gd4, gd5, gd6, gd7, gd8, gd9, gd10, gd11, gd12, gd13, inA_l, inW_l, inZ_l, inQ_l, aget_l, aset_l, qget_l, qset_l, isA_l, isA_q, alen_l, k2_i, k2_a, k2_n, k2_u, k2_l, ite_si, Option.isSome_some, List.cons_append, List.nil_append, List.length_cons, List.length_nil, Nat.reduceAdd, Nat.zero_add, Nat.reduceLT, Nat.reduceEqDiff, decide_true, decide_false, Bool.and_self, Bool.and_true, Bool.true_and, ↓reduceIte, List.set_cons_zero, List.set_cons_succ, Nat.reduceSub, Nat.add_left_cancel_iff, Nat.add_eq_left, Nat.left_eq_add, not_true_eq_false, not_false_eq_true, reduceCtorEq, i10, i01, ib10, ib01, beq_self_eq_true, eq_self, Int32.reduceLT, Int32.reduceToNatClampNeg, Int32.reduceAdd, Int32.reduceSub, Int32.reduceMul, Bool.or_true, Bool.true_or, Bool.or_false, Bool.false_or, Nat.reduceBEq, Nat.reduceMul, show ¬ nI 8 < 8 by decide, sz]
    rfl
  | succ d ih =>
    intro i hi
    have c1 : nI i < 8 := nI_lt (b := 8) (by omega) (by decide)
    have e1 := p_codeAt x (nI i) h
    have e2 := p_isWithin (cA x (nI i)) 33 126 h
    rw [q91_2]
    unfold sz
    by_cases ca : cA x (nI i) = 0
    · rw [if_pos ca]
      by_cases cb : tz x (nI i) = 0
      · have cb' := cb
        unfold tz at cb'
        simp only [q91_0, q91_1, q91_3, q91_5, q91_8, q91_9, q91_10, q91_13, q91_16, q91_17, q91_19, q91_20, q91_21, q91_22, q91_23, q91_24, q91_27, q91_28, q91_31, q91_32, q91_33, q91_34, q91_35, q91_38, q91_40, q91_42, q91_45, q91_48, q91_49, q91_50, q91_53, q91_56, q91_58, rv_v, rv_n, rh_v, mu_at, isF_r, isK_r, fld_r, fset_r, gd0, gd1, gd2, gd3, gd4, gd5, gd6, gd7, gd8, gd9, gd10, gd11, gd12, gd13, inA_l, inW_l, inZ_l, inQ_l, aget_l, aset_l, qget_l, qset_l, isA_l, isA_q, alen_l, k2_i, k2_a, k2_n, k2_u, k2_l, ite_si, Option.isSome_some, List.cons_append, List.nil_append, List.length_cons, List.length_nil, Nat.reduceAdd, Nat.zero_add, Nat.reduceLT, Nat.reduceEqDiff, decide_true, decide_false, Bool.and_self, Bool.and_true, Bool.true_and, ↓reduceIte, List.set_cons_zero, List.set_cons_succ, Nat.reduceSub, Nat.add_left_cancel_iff, Nat.add_eq_left, Nat.left_eq_add, not_true_eq_false, not_false_eq_true, reduceCtorEq, i10, i01, ib10, ib01, beq_self_eq_true, eq_self, Int32.reduceLT, Int32.reduceToNatClampNeg, Int32.reduceAdd, Int32.reduceSub, Int32.reduceMul, Bool.or_true, Bool.true_or, Bool.or_false, Bool.false_or, Nat.reduceBEq, Nat.reduceMul, e1, c1, if_pos ca, if_pos cb, if_pos cb']
      · have cb' := cb
        unfold tz at cb'
        simp only [q91_0, q91_1, q91_3, q91_5, q91_8, q91_9, q91_10, q91_13, q91_16, q91_17, q91_19, q91_20, q91_21, q91_22, q91_23, q91_24, q91_27, q91_28, q91_31, q91_32, q91_33, q91_34, q91_35, q91_38, q91_40, q91_42, q91_45, q91_48, q91_49, q91_50, q91_53, q91_56, q91_58, rv_v, rv_n, rh_v, mu_at, isF_r, isK_r, fld_r, fset_r, gd0, gd1, gd2, gd3, gd4, gd5, gd6, gd7, gd8, gd9, gd10, gd11, gd12, gd13, inA_l, inW_l, inZ_l, inQ_l, aget_l, aset_l, qget_l, qset_l, isA_l, isA_q, alen_l, k2_i, k2_a, k2_n, k2_u, k2_l, ite_si, Option.isSome_some, List.cons_append, List.nil_append, List.length_cons, List.length_nil, Nat.reduceAdd, Nat.zero_add, Nat.reduceLT, Nat.reduceEqDiff, decide_true, decide_false, Bool.and_self, Bool.and_true, Bool.true_and, ↓reduceIte, List.set_cons_zero, List.set_cons_succ, Nat.reduceSub, Nat.add_left_cancel_iff, Nat.add_eq_left, Nat.left_eq_add, not_true_eq_false, not_false_eq_true, reduceCtorEq, i10, i01, ib10, ib01, beq_self_eq_true, eq_self, Int32.reduceLT, Int32.reduceToNatClampNeg, Int32.reduceAdd, Int32.reduceSub, Int32.reduceMul, Bool.or_true, Bool.true_or, Bool.or_false, Bool.false_or, Nat.reduceBEq, Nat.reduceMul, e1, c1, if_pos ca, if_neg cb, if_neg cb']
        rfl
    · rw [if_neg ca]
      by_cases cb : bw (cA x (nI i)) 33 126 = 0
      · simp only [q91_0, q91_1, q91_3, q91_5, q91_8, q91_9, q91_10, q91_13, q91_16, q91_17, q91_19, q91_20, q91_21, q91_22, q91_23, q91_24, q91_27, q91_28, q91_31, q91_32, q91_33, q91_34, q91_35, q91_38, q91_40, q91_42, q91_45, q91_48, q91_49, q91_50, q91_53, q91_56, q91_58, rv_v, rv_n, rh_v, mu_at, isF_r, isK_r, fld_r, fset_r, gd0, gd1, gd2, gd3, gd4, gd5, gd6, gd7, gd8, gd9, gd10, gd11, gd12, gd13, inA_l, inW_l, inZ_l, inQ_l, aget_l, aset_l, qget_l, qset_l, isA_l, isA_q, alen_l, k2_i, k2_a, k2_n, k2_u, k2_l, ite_si, Option.isSome_some, List.cons_append, List.nil_append, List.length_cons, List.length_nil, Nat.reduceAdd, Nat.zero_add, Nat.reduceLT, Nat.reduceEqDiff, decide_true, decide_false, Bool.and_self, Bool.and_true, Bool.true_and, ↓reduceIte, List.set_cons_zero, List.set_cons_succ, Nat.reduceSub, Nat.add_left_cancel_iff, Nat.add_eq_left, Nat.left_eq_add, not_true_eq_false, not_false_eq_true, reduceCtorEq, i10, i01, ib10, ib01, beq_self_eq_true, eq_self, Int32.reduceLT, Int32.reduceToNatClampNeg, Int32.reduceAdd, Int32.reduceSub, Int32.reduceMul, Bool.or_true, Bool.true_or, Bool.or_false, Bool.false_or, Nat.reduceBEq, Nat.reduceMul, e1, e2, c1, if_neg ca, if_pos cb]
        rfl
      · rw [if_neg cb, ← ih (i + 1) (by omega)]
        simp only [q91_0, q91_1, q91_3, q91_5, q91_8, q91_9, q91_10, q91_13, q91_16, q91_17, q91_19, q91_20, q91_21, q91_22, q91_23, q91_24, q91_27, q91_28, q91_31, q91_32, q91_33, q91_34, q91_35, q91_38, q91_40, q91_42, q91_45, q91_48, q91_49, q91_50, q91_53, q91_56, q91_58, rv_v, rv_n, rh_v, mu_at, isF_r, isK_r, fld_r, fset_r, gd0, gd1, gd2, gd3, gd4, gd5, gd6, gd7, gd8, gd9, gd10, gd11, gd12, gd13, inA_l, inW_l, inZ_l, inQ_l, aget_l, aset_l, qget_l, qset_l, isA_l, isA_q, alen_l, k2_i, k2_a, k2_n, k2_u, k2_l, ite_si, Option.isSome_some, List.cons_append, List.nil_append, List.length_cons, List.length_nil, Nat.reduceAdd, Nat.zero_add, Nat.reduceLT, Nat.reduceEqDiff, decide_true, decide_false, Bool.and_self, Bool.and_true, Bool.true_and, ↓reduceIte, List.set_cons_zero, List.set_cons_succ, Nat.reduceSub, Nat.add_left_cancel_iff, Nat.add_eq_left, Nat.left_eq_add, not_true_eq_false, not_false_eq_true, reduceCtorEq, i10, i01, ib10, ib01, beq_self_eq_true, eq_self, Int32.reduceLT, Int32.reduceToNatClampNeg, Int32.reduceAdd, Int32.reduceSub, Int32.reduceMul, Bool.or_true, Bool.true_or, Bool.or_false, Bool.false_or, Nat.reduceBEq, Nat.reduceMul, e1, e2, c1, if_neg ca, if_neg cb, nI_1]
theorem p_chars (x : Int64) (h : xH) : cl 91 [.long x] h = some (some (.int (nI (sz x 0 8))), h) := by
  rw [← p_charsLoop x h 8 0 (by omega)]
  simp only [c91, q91_0, q91_1, q91_3, q91_5, q91_8, q91_9, q91_10, q91_13, q91_16, q91_17, q91_19, q91_20, q91_21, q91_22, q91_23, q91_24, q91_27, q91_28, q91_31, q91_32, q91_33, q91_34, q91_35, q91_38, q91_40, q91_42, q91_45, q91_48, q91_49, q91_50, q91_53, q91_56, q91_58, rv_v, rv_n, rh_v, mu_at, isF_r, isK_r, fld_r, fset_r, gd0, gd1, gd2, gd3, gd4, gd5, gd6, gd7, gd8, gd9, gd10, gd11, gd12, gd13, inA_l, inW_l, inZ_l, inQ_l, aget_l, aset_l, qget_l, qset_l, isA_l, isA_q, alen_l, k2_i, k2_a, k2_n, k2_u, k2_l, ite_si, Option.isSome_some, List.cons_append, List.nil_append, List.length_cons, List.length_nil, Nat.reduceAdd, Nat.zero_add, Nat.reduceLT, Nat.reduceEqDiff, decide_true, decide_false, Bool.and_self, Bool.and_true, Bool.true_and, ↓reduceIte, List.set_cons_zero, List.set_cons_succ, Nat.reduceSub, Nat.add_left_cancel_iff, Nat.add_eq_left, Nat.left_eq_add, not_true_eq_false, not_false_eq_true, reduceCtorEq, i10, i01, ib10, ib01, beq_self_eq_true, eq_self, Int32.reduceLT, Int32.reduceToNatClampNeg, Int32.reduceAdd, Int32.reduceSub, Int32.reduceMul, Bool.or_true, Bool.true_or, Bool.or_false, Bool.false_or, Nat.reduceBEq, Nat.reduceMul]
  rfl
section
variable {b : Nat} {h : xH} {σ : AS} {st le sp nu fl : Int32}
theorem m_szLoop (x : Int64) (h : xH) : ∀ (d i : Nat), i + d = 8 → rn 138 2 [.ref b, .long x, unk, .int (nI i), unk] [] h = if sz x i d = 0 then some (some (.int (-2)), h) else rn 138 64 [.ref b, .long x, unk, .int (nI (sz x i d)), unk] [] h := by
  intro d
  induction d with
  | zero =>
    intro i hi
    obtain rfl : i = 8 := by omega
    rw [q138_2]
    unfold sz
    simp only [q138_0, q138_1, q138_3, q138_5, q138_8, q138_9, q138_10, q138_13, q138_16, q138_17, q138_18, q138_21, q138_23, q138_25, q138_28, q138_31, q138_33, q138_34, q138_37, q138_40, q138_41, q138_44, q138_45, q138_47, q138_50, q138_51, q138_53, q138_54, q138_55, q138_56, q138_57, q138_58, q138_61, q138_63, q138_65, q138_68, q138_69, q138_70, q138_72, q138_75, q138_77, q138_78, q138_79, q138_80, q138_81, q138_83, q138_85, q138_88, q138_89, q138_92, q138_93, q138_96, q138_97, q138_99, q138_102, q138_103, q138_104, q138_105, q138_108, q138_109, q138_110, q138_113, q138_116, q138_119, q138_120, q138_123, rv_v, rv_n, rh_v, mu_at, isF_r, isK_r, fld_r, fset_r, gd0, gd1, gd2, gd3, gd4, gd5, gd6, gd7, gd8, gd9, gd10, gd11, gd12, gd13, inA_l, inW_l, inZ_l, inQ_l, aget_l, aset_l, qget_l, qset_l, isA_l, isA_q, alen_l, k2_i, k2_a, k2_n, k2_u, k2_l, ite_si, Option.isSome_some, List.cons_append, List.nil_append, List.length_cons, List.length_nil, Nat.reduceAdd, Nat.zero_add, Nat.reduceLT, Nat.reduceEqDiff, decide_true, decide_false, Bool.and_self, Bool.and_true, Bool.true_and, ↓reduceIte, List.set_cons_zero, List.set_cons_succ, Nat.reduceSub, Nat.add_left_cancel_iff, Nat.add_eq_left, Nat.left_eq_add, not_true_eq_false, not_false_eq_true, reduceCtorEq, i10, i01, ib10, ib01, beq_self_eq_true, eq_self, Int32.reduceLT, Int32.reduceToNatClampNeg, Int32.reduceAdd, Int32.reduceSub, Int32.reduceMul, Bool.or_true, Bool.true_or, Bool.or_false, Bool.false_or, Nat.reduceBEq, Nat.reduceMul, show ¬ nI 8 < 8 by decide, show ¬ nI 8 = 0 by decide, show ¬ 8 = 0 by decide]
  | succ d ih =>
    intro i hi
    have c1 : nI i < 8 := nI_lt (b := 8) (by omega) (by decide)
    have e1 := m_codeAt x (nI i) h
    have e2 := m_in (cA x (nI i)) 33 126 h
    rw [q138_2]
    unfold sz
    by_cases ca : cA x (nI i) = 0
    · rw [if_pos ca]
      by_cases cz : i = 0
      · subst cz
        have : (if tz x (nI 0) = 0 then 0 else 0) = 0 := by split <;> rfl
        rw [this, if_pos rfl]
        have z0 : nI 0 = 0 := rfl
        rw [z0] at e1 c1 ca
        rw [z0]
        simp only [q138_0, q138_1, q138_3, q138_5, q138_8, q138_9, q138_10, q138_13, q138_16, q138_17, q138_18, q138_21, q138_23, q138_25, q138_28, q138_31, q138_33, q138_34, q138_37, q138_40, q138_41, q138_44, q138_45, q138_47, q138_50, q138_51, q138_53, q138_54, q138_55, q138_56, q138_57, q138_58, q138_61, q138_63, q138_65, q138_68, q138_69, q138_70, q138_72, q138_75, q138_77, q138_78, q138_79, q138_80, q138_81, q138_83, q138_85, q138_88, q138_89, q138_92, q138_93, q138_96, q138_97, q138_99, q138_102, q138_103, q138_104, q138_105, q138_108, q138_109, q138_110, q138_113, q138_116, q138_119, q138_120, q138_123, rv_v, rv_n, rh_v, mu_at, isF_r, isK_r, fld_r, fset_r, gd0, gd1, gd2, gd3, gd4, gd5, gd6, gd7, gd8, gd9, gd10, gd11, gd12, gd13, inA_l, inW_l, inZ_l, inQ_l, aget_l, aset_l, qget_l, qset_l, isA_l, isA_q, alen_l, k2_i, k2_a, k2_n, k2_u, k2_l, ite_si, Option.isSome_some, List.cons_append, List.nil_append, List.length_cons, List.length_nil, Nat.reduceAdd, Nat.zero_add, Nat.reduceLT, Nat.reduceEqDiff, decide_true, decide_false, Bool.and_self, Bool.and_true, Bool.true_and, ↓reduceIte, List.set_cons_zero, List.set_cons_succ, Nat.reduceSub, Nat.add_left_cancel_iff, Nat.add_eq_left, Nat.left_eq_add, not_true_eq_false, not_false_eq_true, reduceCtorEq, i10, i01, ib10, ib01, beq_self_eq_true, eq_self, Int32.reduceLT, Int32.reduceToNatClampNeg, Int32.reduceAdd, Int32.reduceSub, Int32.reduceMul, Bool.or_true, Bool.true_or, Bool.or_false, Bool.false_or, Nat.reduceBEq, Nat.reduceMul, e1, c1, if_pos ca]
      · have c2 : ¬ nI i = 0 := nI_ne0 (by omega) (by omega)
        by_cases cb : tz x (nI i) = 0
        · have cb' := cb
          unfold tz at cb'
          rw [if_pos cb, if_neg cz]
          simp only [q138_0, q138_1, q138_3, q138_5, q138_8, q138_9, q138_10, q138_13, q138_16, q138_17, q138_18, q138_21, q138_23, q138_25, q138_28, q138_31, q138_33, q138_34, q138_37, q138_40, q138_41, q138_44, q138_45, q138_47, q138_50, q138_51, q138_53, q138_54, q138_55, q138_56, q138_57, q138_58, q138_61, q138_63, q138_65, q138_68, q138_69, q138_70, q138_72, q138_75, q138_77, q138_78, q138_79, q138_80, q138_81, q138_83, q138_85, q138_88, q138_89, q138_92, q138_93, q138_96, q138_97, q138_99, q138_102, q138_103, q138_104, q138_105, q138_108, q138_109, q138_110, q138_113, q138_116, q138_119, q138_120, q138_123, rv_v, rv_n, rh_v, mu_at, isF_r, isK_r, fld_r, fset_r, gd0, gd1, gd2, gd3, gd4, gd5, gd6, gd7, gd8, gd9, gd10, gd11, gd12, gd13, inA_l, inW_l, inZ_l, inQ_l, aget_l, aset_l, qget_l, qset_l, isA_l, isA_q, alen_l, k2_i, k2_a, k2_n, k2_u, k2_l, ite_si, Option.isSome_some, List.cons_append, List.nil_append, List.length_cons, List.length_nil, Nat.reduceAdd, Nat.zero_add, Nat.reduceLT, Nat.reduceEqDiff, decide_true, decide_false, Bool.and_self, Bool.and_true, Bool.true_and, ↓reduceIte, List.set_cons_zero, List.set_cons_succ, Nat.reduceSub, Nat.add_left_cancel_iff, Nat.add_eq_left, Nat.left_eq_add, not_true_eq_false, not_false_eq_true, reduceCtorEq, i10, i01, ib10, ib01, beq_self_eq_true, eq_self, Int32.reduceLT, Int32.reduceToNatClampNeg, Int32.reduceAdd, Int32.reduceSub, Int32.reduceMul, Bool.or_true, Bool.true_or, Bool.or_false, Bool.false_or, Nat.reduceBEq, Nat.reduceMul, e1, c1, c2, if_pos ca, if_pos cb']
        · have cb' := cb
          unfold tz at cb'
          rw [if_neg cb, if_pos rfl]
          simp only [q138_0, q138_1, q138_3, q138_5, q138_8, q138_9, q138_10, q138_13, q138_16, q138_17, q138_18, q138_21, q138_23, q138_25, q138_28, q138_31, q138_33, q138_34, q138_37, q138_40, q138_41, q138_44, q138_45, q138_47, q138_50, q138_51, q138_53, q138_54, q138_55, q138_56, q138_57, q138_58, q138_61, q138_63, q138_65, q138_68, q138_69, q138_70, q138_72, q138_75, q138_77, q138_78, q138_79, q138_80, q138_81, q138_83, q138_85, q138_88, q138_89, q138_92, q138_93, q138_96, q138_97, q138_99, q138_102, q138_103, q138_104, q138_105, q138_108, q138_109, q138_110, q138_113, q138_116, q138_119, q138_120, q138_123, rv_v, rv_n, rh_v, mu_at, isF_r, isK_r, fld_r, fset_r, gd0, gd1, gd2, gd3, gd4, gd5, gd6, gd7, gd8, gd9, gd10, gd11, gd12, gd13, inA_l, inW_l, inZ_l, inQ_l, aget_l, aset_l, qget_l, qset_l, isA_l, isA_q, alen_l, k2_i, k2_a, k2_n, k2_u, k2_l, ite_si, Option.isSome_some, List.cons_append, List.nil_append, List.length_cons, List.length_nil, Nat.reduceAdd, Nat.zero_add, Nat.reduceLT, Nat.reduceEqDiff, decide_true, decide_false, Bool.and_self, Bool.and_true, Bool.true_and, ↓reduceIte, List.set_cons_zero, List.set_cons_succ, Nat.reduceSub, Nat.add_left_cancel_iff, Nat.add_eq_left, Nat.left_eq_add, not_true_eq_false, not_false_eq_true, reduceCtorEq, i10, i01, ib10, ib01, beq_self_eq_true, eq_self, Int32.reduceLT, Int32.reduceToNatClampNeg, Int32.reduceAdd, Int32.reduceSub, Int32.reduceMul, Bool.or_true, Bool.true_or, Bool.or_false, Bool.false_or, Nat.reduceBEq, Nat.reduceMul, e1, c1, c2, if_pos ca, if_neg cb']
    · rw [if_neg ca]
      by_cases cb : bw (cA x (nI i)) 33 126 = 0
      · rw [if_pos cb, if_pos rfl]
        simp only [q138_0, q138_1, q138_3, q138_5, q138_8, q138_9, q138_10, q138_13, q138_16, q138_17, q138_18, q138_21, q138_23, q138_25, q138_28, q138_31, q138_33, q138_34, q138_37, q138_40, q138_41, q138_44, q138_45, q138_47, q138_50, q138_51, q138_53, q138_54, q138_55, q138_56, q138_57, q138_58, q138_61, q138_63, q138_65, q138_68, q138_69, q138_70, q138_72, q138_75, q138_77, q138_78, q138_79, q138_80, q138_81, q138_83, q138_85, q138_88, q138_89, q138_92, q138_93, q138_96, q138_97, q138_99, q138_102, q138_103, q138_104, q138_105, q138_108, q138_109, q138_110, q138_113, q138_116, q138_119, q138_120, q138_123, rv_v, rv_n, rh_v, mu_at, isF_r, isK_r, fld_r, fset_r, gd0, gd1, gd2, gd3, gd4, gd5, gd6, gd7, gd8, gd9, gd10, gd11, gd12, gd13, inA_l, inW_l, inZ_l, inQ_l, aget_l, aset_l, qget_l, qset_l, isA_l, isA_q, alen_l, k2_i, k2_a, k2_n, k2_u, k2_l, ite_si, Option.isSome_some, List.cons_append, List.nil_append, List.length_cons, List.length_nil, Nat.reduceAdd, Nat.zero_add, Nat.reduceLT, Nat.reduceEqDiff, decide_true, decide_false, Bool.and_self, Bool.and_true, Bool.true_and, ↓reduceIte, List.set_cons_zero, List.set_cons_succ, Nat.reduceSub, Nat.add_left_cancel_iff, Nat.add_eq_left, Nat.left_eq_add, not_true_eq_false, not_false_eq_true, reduceCtorEq, i10, i01, ib10, ib01, beq_self_eq_true, eq_self, Int32.reduceLT, Int32.reduceToNatClampNeg, Int32.reduceAdd, Int32.reduceSub, Int32.reduceMul, Bool.or_true, Bool.true_or, Bool.or_false, Bool.false_or, Nat.reduceBEq, Nat.reduceMul, e1, e2, c1, if_neg ca, if_pos cb]
      · rw [if_neg cb, ← ih (i + 1) (by omega)]
        simp only [q138_0, q138_1, q138_3, q138_5, q138_8, q138_9, q138_10, q138_13, q138_16, q138_17, q138_18, q138_21, q138_23, q138_25, q138_28, q138_31, q138_33, q138_34, q138_37, q138_40, q138_41, q138_44, q138_45, q138_47, q138_50, q138_51, q138_53, q138_54, q138_55, q138_56, q138_57, q138_58, q138_61, q138_63, q138_65, q138_68, q138_69, q138_70, q138_72, q138_75, q138_77, q138_78, q138_79, q138_80, q138_81, q138_83, q138_85, q138_88, q138_89, q138_92, q138_93, q138_96, q138_97, q138_99, q138_102, q138_103, q138_104, q138_105, q138_108, q138_109, q138_110, q138_113, q138_116, q138_119, q138_120, q138_123, rv_v, rv_n, rh_v, mu_at, isF_r, isK_r, fld_r, fset_r, gd0, gd1, gd2, gd3, gd4, gd5, gd6, gd7, gd8, gd9, gd10, gd11, gd12, gd13, inA_l, inW_l, inZ_l, inQ_l, aget_l, aset_l, qget_l, qset_l, isA_l, isA_q, alen_l, k2_i, k2_a, k2_n, k2_u, k2_l, ite_si, Option.isSome_some, List.cons_append, List.nil_append, List.length_cons, List.length_nil, Nat.reduceAdd, Nat.zero_add, Nat.reduceLT, Nat.reduceEqDiff, decide_true, decide_false, Bool.and_self, Bool.and_true, Bool.true_and, ↓reduceIte, List.set_cons_zero, List.set_cons_succ, Nat.reduceSub, Nat.add_left_cancel_iff, Nat.add_eq_left, Nat.left_eq_add, not_true_eq_false, not_false_eq_true, reduceCtorEq, i10, i01, ib10, ib01, beq_self_eq_true, eq_self, Int32.reduceLT, Int32.reduceToNatClampNeg, Int32.reduceAdd, Int32.reduceSub, Int32.reduceMul, Bool.or_true, Bool.true_or, Bool.or_false, Bool.false_or, Nat.reduceBEq, Nat.reduceMul, e1, e2, c1, if_neg ca, if_neg cb, nI_1]
theorem sw6 (m : xM) (x y : va_E) : mu (mu m b x) (b + 6) y = mu (mu m (b + 6) y) b x := by
  funext q
  simp only [mu_at]
  by_cases ha : q = b + 6
  · rw [if_pos ha, if_pos ha, if_neg (by omega)]
  · rw [if_neg ha, if_neg ha]
/-- the codes, the first one first -/
def cs (x : Int64) : Nat → List Int32
  | 0 => []
  | n + 1 => cA x (nI n) :: cs x n
theorem cs_len (x : Int64) : ∀ n, (cs x n).length = n
  | 0 => rfl
  | n + 1 => by simp [cs, cs_len x n]
def PA (pf : Nat → Int32) (L : List Int32) : Prop := ∀ (j : Nat) (x : Int32), L[j]? = some x → pf j = x
theorem PA.app {pf : Nat → Int32} {L : List Int32} (hP : PA pf L) (x : Int32) : PA (upd pf L.length x) (L ++ [x]) := by
  intro j y hj
  have hlt : j < (L ++ [x]).length := (List.getElem?_eq_some_iff.mp hj).1
  by_cases hz : j = L.length
  · subst hz
    rw [upd_s]
    simp at hj
    exact hj
  · have : j < L.length := by simp at hlt; omega
    rw [upd_n _ _ hz]
    rw [List.getElem?_append_left this] at hj
    exact hP j y hj
theorem m_putLoop {x : Int64} {n0 : Int32} {z : Nat × Nat} {m : xM} : ∀ (d : Nat) (L : List Int32) (pf : Nat → Int32), L.length + d ≤ 60 → PA pf L → ∃ pf', rn 138 83 [.ref b, .long x, unk, .int n0, .int (nI d - 1)] [] (z, mu (mu m (b + 6) (.inl (0, 60, .inl pf))) b (.inr (8, [.ref (b + 1), .ref (b + 2), .int st, .ref (b + 3), .ref (b + 4), .ref (b + 5), .ref (b + 6), .int (nI L.length), .int sp, .int nu, .int fl, .ref (b + 7), .ref (b + 8), .ref (b + 9)]))) = some (some (.int (nI (L ++ cs x d).length)), (z, mu (mu m (b + 6) (.inl (0, 60, .inl pf'))) b (.inr (8, [.ref (b + 1), .ref (b + 2), .int st, .ref (b + 3), .ref (b + 4), .ref (b + 5), .ref (b + 6), .int (nI (L ++ cs x d).length), .int sp, .int nu, .int fl, .ref (b + 7), .ref (b + 8), .ref (b + 9)])))) ∧ PA pf' (L ++ cs x d) := by
  intro d
  induction d with
  | zero =>
    intro L pf hL hP
    refine ⟨pf, ?_, by rw [show cs x 0 = [] from rfl, List.append_nil]; exact hP⟩
    rw [show cs x 0 = [] from rfl, List.append_nil]
    have c1 : nI 0 - 1 < 0 := by decide
    rw [q138_83]
    simp only [q138_0, q138_1, q138_2, q138_3, q138_5, q138_8, q138_9, q138_10, q138_13, q138_16, q138_17, q138_18, q138_21, q138_23, q138_25, q138_28, q138_31, q138_33, q138_34, q138_37, q138_40, q138_41, q138_44, q138_45, q138_47, q138_50, q138_51, q138_53, q138_54, q138_55, q138_56, q138_57, q138_58, q138_61, q138_63, q138_64, q138_65, q138_68, q138_69, q138_70, q138_72, q138_75, q138_77, q138_78, q138_79, q138_80, q138_81, q138_85, q138_88, q138_89, q138_92, q138_93, q138_96, q138_97, q138_99, q138_102, q138_103, q138_104, q138_105, q138_108, q138_109, q138_110, q138_113, q138_116, q138_119, q138_120, q138_123, rv_v, rv_n, rh_v, mu_at, isF_r, isK_r, fld_r, fset_r, gd0, gd1, gd2, gd3, gd4, gd5, gd6, gd7, gd8, gd9, gd10, gd11, gd12, gd13, inA_l, inW_l, inZ_l, inQ_l, aget_l, aset_l, qget_l, qset_l, isA_l, isA_q, alen_l, k2_i, k2_a, k2_n, k2_u, k2_l, ite_si, Option.isSome_some, List.cons_append, List.nil_append, List.length_cons, List.length_nil, Nat.reduceAdd, Nat.zero_add, Nat.reduceLT, Nat.reduceEqDiff, decide_true, decide_false, Bool.and_self, Bool.and_true, Bool.true_and, ↓reduceIte, List.set_cons_zero, List.set_cons_succ, Nat.reduceSub, Nat.add_left_cancel_iff, Nat.add_eq_left, Nat.left_eq_add, not_true_eq_false, not_false_eq_true, reduceCtorEq, i10, i01, ib10, ib01, beq_self_eq_true, eq_self, Int32.reduceLT, Int32.reduceToNatClampNeg, Int32.reduceAdd, Int32.reduceSub, Int32.reduceMul, Bool.or_true, Bool.true_or, Bool.or_false, Bool.false_or, Nat.reduceBEq, Nat.reduceMul, c1]
  | succ d ih =>
    intro L pf hL hP
    obtain ⟨pf', e, hP'⟩ := ih (L ++ [cA x (nI d)]) (upd pf L.length (cA x (nI d))) (by simp; omega) (hP.app _)
    have ea : L ++ [cA x (nI d)] ++ cs x d = L ++ cs x (d + 1) := by rw [List.append_assoc]; rfl
    have el : (L ++ [cA x (nI d)]).length = L.length + 1 := by simp
    rw [ea, el] at e
    rw [ea] at hP'
    refine ⟨pf', ?_, hP'⟩
    rw [← e]
    have ep : nI (d + 1) - 1 = nI d := nI_pred d
    have c1 : ¬ nI d < 0 := nI_pos (by omega)
    have c0 : ¬ nI L.length < 0 := nI_pos (by omega)
    have c2 : (nI L.length).toNatClampNeg = L.length := nI_clamp (by omega)
    have c3 : L.length < 60 := by omega
    have em : nI d + -1 = nI d - 1 := (Int32.sub_eq_add_neg _ _).symm
    rw [ep, q138_83]
    simp only [q138_0, q138_1, q138_2, q138_3, q138_5, q138_8, q138_9, q138_10, q138_13, q138_16, q138_17, q138_18, q138_21, q138_23, q138_25, q138_28, q138_31, q138_33, q138_34, q138_37, q138_40, q138_41, q138_44, q138_45, q138_47, q138_50, q138_51, q138_53, q138_54, q138_55, q138_56, q138_57, q138_58, q138_61, q138_63, q138_64, q138_65, q138_68, q138_69, q138_70, q138_72, q138_75, q138_77, q138_78, q138_79, q138_80, q138_81, q138_85, q138_88, q138_89, q138_92, q138_93, q138_96, q138_97, q138_99, q138_102, q138_103, q138_104, q138_105, q138_108, q138_109, q138_110, q138_113, q138_116, q138_119, q138_120, q138_123, rv_v, rv_n, rh_v, mu_at, isF_r, isK_r, fld_r, fset_r, gd0, gd1, gd2, gd3, gd4, gd5, gd6, gd7, gd8, gd9, gd10, gd11, gd12, gd13, inA_l, inW_l, inZ_l, inQ_l, aget_l, aset_l, qget_l, qset_l, isA_l, isA_q, alen_l, k2_i, k2_a, k2_n, k2_u, k2_l, ite_si, Option.isSome_some, List.cons_append, List.nil_append, List.length_cons, List.length_nil, Nat.reduceAdd, Nat.zero_add, Nat.reduceLT, Nat.reduceEqDiff, decide_true, decide_false, Bool.and_self, Bool.and_true, Bool.true_and, ↓reduceIte, List.set_cons_zero, List.set_cons_succ, Nat.reduceSub, Nat.add_left_cancel_iff, Nat.add_eq_left, Nat.left_eq_add, not_true_eq_false, not_false_eq_true, reduceCtorEq, i10, i01, ib10, ib01, beq_self_eq_true, eq_self, Int32.reduceLT, Int32.reduceToNatClampNeg, Int32.reduceAdd, Int32.reduceSub, Int32.reduceMul, Bool.or_true, Bool.true_or, Bool.or_false, Bool.false_or, Nat.reduceBEq, Nat.reduceMul, c1, c0, c2, c3, m_codeAt, sw6, mu_mu, em, nI_1]
theorem mm_put0 {x : Int64} (hz : sz x 0 8 = 0) : mDo 138 b [.long x] σ (-2) σ := by
  refine mDo.same fun h hM => ?_
  have := m_szLoop (b := b) x h 8 0 (by omega)
  rw [if_pos hz, show nI 0 = 0 from rfl] at this
  rw [← this]
  simp only [c138, q138_0, q138_1, rv_v, rv_n, rh_v, mu_at, isF_r, isK_r, fld_r, fset_r, gd0, gd1, gd2, gd3, gd4, gd5, gd6, gd7, gd8, gd9, gd10, gd11, gd12, gd13, inA_l, inW_l, inZ_l, inQ_l, aget_l, aset_l, qget_l, qset_l, isA_l, isA_q, alen_l, k2_i, k2_a, k2_n, k2_u, k2_l, ite_si, Option.isSome_some, List.cons_append, List.nil_append, List.length_cons, List.length_nil, Nat.reduceAdd, Nat.zero_add, Nat.reduceLT, Nat.reduceEqDiff, decide_true, decide_false, Bool.and_self, Bool.and_true, Bool.true_and, ↓reduceIte, List.set_cons_zero, List.set_cons_succ, Nat.reduceSub, Nat.add_left_cancel_iff, Nat.add_eq_left, Nat.left_eq_add, not_true_eq_false, not_false_eq_true, reduceCtorEq, i10, i01, ib10, ib01, beq_self_eq_true, eq_self, Int32.reduceLT, Int32.reduceToNatClampNeg, Int32.reduceAdd, Int32.reduceSub, Int32.reduceMul, Bool.or_true, Bool.true_or, Bool.or_false, Bool.false_or, Nat.reduceBEq, Nat.reduceMul]
theorem m_put64 {x : Int64} (hz : ¬ sz x 0 8 = 0) (h : xH) : cl 138 [.ref b, .long x] h = rn 138 64 [.ref b, .long x, unk, .int (nI (sz x 0 8)), unk] [] h := by
  have := m_szLoop (b := b) x h 8 0 (by omega)
  rw [if_neg hz, show nI 0 = 0 from rfl] at this
  rw [← this]
  simp only [c138, q138_0, q138_1, rv_v, rv_n, rh_v, mu_at, isF_r, isK_r, fld_r, fset_r, gd0, gd1, gd2, gd3, gd4, gd5, gd6, gd7, gd8, gd9, gd10, gd11, gd12, gd13, inA_l, inW_l, inZ_l, inQ_l, aget_l, aset_l, qget_l, qset_l, isA_l, isA_q, alen_l, k2_i, k2_a, k2_n, k2_u, k2_l, ite_si, Option.isSome_some, List.cons_append, List.nil_append, List.length_cons, List.length_nil, Nat.reduceAdd, Nat.zero_add, Nat.reduceLT, Nat.reduceEqDiff, decide_true, decide_false, Bool.and_self, Bool.and_true, Bool.true_and, ↓reduceIte, List.set_cons_zero, List.set_cons_succ, Nat.reduceSub, Nat.add_left_cancel_iff, Nat.add_eq_left, Nat.left_eq_add, not_true_eq_false, not_false_eq_true, reduceCtorEq, i10, i01, ib10, ib01, beq_self_eq_true, eq_self, Int32.reduceLT, Int32.reduceToNatClampNeg, Int32.reduceAdd, Int32.reduceSub, Int32.reduceMul, Bool.or_true, Bool.true_or, Bool.or_false, Bool.false_or, Nat.reduceBEq, Nat.reduceMul]
theorem mm_put1 {x : Int64} (hz : ¬ sz x 0 8 = 0) (hl : 60 < σ.2.2.2.length + sz x 0 8) : mDo 138 b [.long x] σ (-4) σ := by
  refine mDo.same fun h hM => ?_
  obtain ⟨sp, nu, fl, hf, sf, bf, asd, pf, mn, rs, ts, a1, a2, a3, a4, a5, a6, a7, a8, a9, a10, a11, a12, a13, a14, a15, a16, a17, a18⟩ := hM
  have hs := sz_le x 8 0
  have ea : nI σ.2.2.2.length + nI (sz x 0 8) = nI (σ.2.2.2.length + sz x 0 8) := nI_add _ _
  have c1 : 60 < nI (σ.2.2.2.length + sz x 0 8) := nI_lt (a := 60) hl (by omega)
  unfold MO at a1
  rw [m_put64 hz]
  simp only [q138_0, q138_1, q138_3, q138_5, q138_8, q138_9, q138_10, q138_13, q138_16, q138_17, q138_18, q138_21, q138_23, q138_25, q138_28, q138_31, q138_33, q138_34, q138_37, q138_40, q138_41, q138_44, q138_45, q138_47, q138_50, q138_51, q138_53, q138_54, q138_55, q138_56, q138_57, q138_58, q138_61, q138_63, q138_64, q138_65, q138_68, q138_69, q138_70, q138_72, q138_75, q138_77, q138_78, q138_79, q138_80, q138_81, q138_85, q138_88, q138_89, q138_92, q138_93, q138_96, q138_97, q138_99, q138_102, q138_103, q138_104, q138_105, q138_108, q138_109, q138_110, q138_113, q138_116, q138_119, q138_120, q138_123, rv_v, rv_n, rh_v, mu_at, isF_r, isK_r, fld_r, fset_r, gd0, gd1, gd2, gd3, gd4, gd5, gd6, gd7, gd8, gd9, gd10, gd11, gd12, gd13, inA_l, inW_l, inZ_l, inQ_l, aget_l, aset_l, qget_l, qset_l, isA_l, isA_q, alen_l, k2_i, k2_a, k2_n, k2_u, k2_l, ite_si, Option.isSome_some, List.cons_append, List.nil_append, List.length_cons, List.length_nil, Nat.reduceAdd, Nat.zero_add, Nat.reduceLT, Nat.reduceEqDiff, decide_true, decide_false, Bool.and_self, Bool.and_true, Bool.true_and, ↓reduceIte, List.set_cons_zero, List.set_cons_succ, Nat.reduceSub, Nat.add_left_cancel_iff, Nat.add_eq_left, Nat.left_eq_add, not_true_eq_false, not_false_eq_true, reduceCtorEq, i10, i01, ib10, ib01, beq_self_eq_true, eq_self, Int32.reduceLT, Int32.reduceToNatClampNeg, Int32.reduceAdd, Int32.reduceSub, Int32.reduceMul, Bool.or_true, Bool.true_or, Bool.or_false, Bool.false_or, Nat.reduceBEq, Nat.reduceMul, a1, ea, c1]
theorem mm_put2 {x : Int64} (hz : ¬ sz x 0 8 = 0) (hl : σ.2.2.2.length + sz x 0 8 ≤ 60) : mDo 138 b [.long x] σ (nI (σ.2.2.2.length + sz x 0 8)) (σ.1, σ.2.1, σ.2.2.1, σ.2.2.2 ++ cs x (sz x 0 8)) := by
  intro h hM
  obtain ⟨sp, nu, fl, hf, sf, bf, asd, pf, mn, rs, ts, a1, a2, a3, a4, a5, a6, a7, a8, a9, a10, a11, a12, a13, a14, a15, a16, a17, a18⟩ := hM
  have hs := sz_le x 8 0
  have ea : nI σ.2.2.2.length + nI (sz x 0 8) = nI (σ.2.2.2.length + sz x 0 8) := nI_add _ _
  have c1 : ¬ 60 < nI (σ.2.2.2.length + sz x 0 8) := nI_nlt (a := 60) hl (by decide)
  obtain ⟨pf', e, hP'⟩ := m_putLoop (b := b) (st := nI σ.2.1.length) (sp := sp) (nu := nu) (fl := fl) (x := x) (n0 := nI (sz x 0 8)) (z := h.1) (m := h.2) (sz x 0 8) σ.2.2.2 pf hl a14
  have el : (σ.2.2.2 ++ cs x (sz x 0 8)).length = σ.2.2.2.length + sz x 0 8 := by rw [List.length_append, cs_len]
  rw [el] at e
  have ei : (h.1, mu (mu h.2 (b + 6) (.inl (0, 60, .inl pf))) b (MO b (nI σ.2.1.length) (nI σ.2.2.2.length) sp nu fl)) = h := by
    obtain ⟨z, m⟩ := h
    congr 1
    funext q
    simp only [mu_at]
    by_cases h1 : q = b
    · rw [if_pos h1, h1]; exact a1.symm
    · rw [if_neg h1]
      by_cases h2 : q = b + 6
      · rw [if_pos h2, h2]; exact a13.symm
      · rw [if_neg h2]
  unfold MO at ei
  rw [ei] at e
  have a1' := a1
  unfold MO at a1'
  refine ⟨mu (mu h.2 (b + 6) (.inl (0, 60, .inl pf'))) b (MO b (nI σ.2.1.length) (nI (σ.2.2.2.length + sz x 0 8)) sp nu fl), ?_, ⟨sp, nu, fl, hf, sf, bf, asd, pf', mn, rs, ts, ?_, a2, by rw [mu_n _ _ (by omega), mu_n _ _ (by omega)]; exact a3, by rw [mu_n _ _ (by omega), mu_n _ _ (by omega)]; exact a4, a5, by rw [mu_n _ _ (by omega), mu_n _ _ (by omega)]; exact a6, a7, a8, by rw [mu_n _ _ (by omega), mu_n _ _ (by omega)]; exact a9, a10, a11, by rw [mu_n _ _ (by omega), mu_n _ _ (by omega)]; exact a12, by rw [mu_n _ _ (by omega), mu_s], hP', by show (σ.2.2.2 ++ cs x (sz x 0 8)).length ≤ 60; rw [el]; exact hl, by rw [mu_n _ _ (by omega), mu_n _ _ (by omega)]; exact a16, by rw [mu_n _ _ (by omega), mu_n _ _ (by omega)]; exact a17, by rw [mu_n _ _ (by omega), mu_n _ _ (by omega)]; exact a18⟩, (fB.rf.mu (by omega) (by omega)).mu (by omega) (by omega)⟩
  · show cl 138 [.ref b, .long x] h = _
    unfold MO
    rw [m_put64 hz, ← e]
    simp only [q138_0, q138_1, q138_3, q138_5, q138_8, q138_9, q138_10, q138_13, q138_16, q138_17, q138_18, q138_21, q138_23, q138_25, q138_28, q138_31, q138_33, q138_34, q138_37, q138_40, q138_41, q138_44, q138_45, q138_47, q138_50, q138_51, q138_53, q138_54, q138_55, q138_56, q138_57, q138_58, q138_61, q138_63, q138_64, q138_65, q138_68, q138_69, q138_70, q138_72, q138_75, q138_77, q138_78, q138_79, q138_80, q138_81, q138_85, q138_88, q138_89, q138_92, q138_93, q138_96, q138_97, q138_99, q138_102, q138_103, q138_104, q138_105, q138_108, q138_109, q138_110, q138_113, q138_116, q138_119, q138_120, q138_123, rv_v, rv_n, rh_v, mu_at, isF_r, isK_r, fld_r, fset_r, gd0, gd1, gd2, gd3, gd4, gd5, gd6, gd7, gd8, gd9, gd10, gd11, gd12, gd13, inA_l, inW_l, inZ_l, inQ_l, aget_l, aset_l, qget_l, qset_l, isA_l, isA_q, alen_l, k2_i, k2_a, k2_n, k2_u, k2_l, ite_si, Option.isSome_some, List.cons_append, List.nil_append, List.length_cons, List.length_nil, Nat.reduceAdd, Nat.zero_add, Nat.reduceLT, Nat.reduceEqDiff, decide_true, decide_false, Bool.and_self, Bool.and_true, Bool.true_and, ↓reduceIte, List.set_cons_zero, List.set_cons_succ, Nat.reduceSub, Nat.add_left_cancel_iff, Nat.add_eq_left, Nat.left_eq_add, not_true_eq_false, not_false_eq_true, reduceCtorEq, i10, i01, ib10, ib01, beq_self_eq_true, eq_self, Int32.reduceLT, Int32.reduceToNatClampNeg, Int32.reduceAdd, Int32.reduceSub, Int32.reduceMul, Bool.or_true, Bool.true_or, Bool.or_false, Bool.false_or, Nat.reduceBEq, Nat.reduceMul, a1', ea, c1]
  · rw [mu_s]
    show _ = MO b (nI σ.2.1.length) (nI (σ.2.2.2 ++ cs x (sz x 0 8)).length) sp nu fl
    rw [el]
end
