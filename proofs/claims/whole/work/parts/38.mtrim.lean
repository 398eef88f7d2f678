theorem lay0_keep {r r' : Row} {k : Nat} (h : lay0 r k = some r') {j : Nat} (hj : j < 45 ∨ 48 < j) : r' j = r j := by
  unfold lay0 at h
  split at h
  · split at h
    · cases h
    · cases h; rw [upd_n _ _ (by omega), upd_n _ _ (by omega), upd_n _ _ (by omega), upd_n _ _ (by omega)]
  · cases h; rw [upd_n _ _ (by omega), upd_n _ _ (by omega), upd_n _ _ (by omega)]
theorem lay1_keep {r r' : Row} {S k : Nat} (h : lay1 r S k = some r') {j : Nat} (hj : j < 50 ∨ 53 < j) : r' j = r j := by
  unfold lay1 at h
  split at h
  · split at h
    · cases h
    · cases h; rw [upd_n _ _ (by omega), upd_n _ _ (by omega), upd_n _ _ (by omega), upd_n _ _ (by omega)]
  · cases h; rw [upd_n _ _ (by omega), upd_n _ _ (by omega), upd_n _ _ (by omega)]
theorem clr_keep (r : Row) {j : Nat} (hj : j < 45 ∨ j = 49 ∨ 53 < j) : clr r j = r j := by
  unfold clr
  rw [upd_n _ _ (by omega), upd_n _ _ (by omega), upd_n _ _ (by omega), upd_n _ _ (by omega), upd_n _ _ (by omega), upd_n _ _ (by omega), upd_n _ _ (by omega), upd_n _ _ (by omega)]
/-- laying n steps from k on, by the crew 0, by the crew 1 downwards: the row, and whether all could be laid -/
def lA (r : Row) (k : Nat) : Nat → Row × Int32
  | 0 => (r, 1)
  | n + 1 => match lay0 r k with | some r' => lA r' (k + 1) n | none => (r, 0)
def lB (S : Nat) (r : Row) (t : Nat) : Nat → Row × Int32
  | 0 => (r, 1)
  | n + 1 => match lay1 r S (t + n) with | some r' => lB S r' t n | none => (r, 0)
theorem lA_keep : ∀ (n : Nat) (r : Row) (k j : Nat), (j < 45 ∨ 48 < j) → (lA r k n).1 j = r j
  | 0, _, _, _, _ => rfl
  | n + 1, r, k, j, hj => by
    unfold lA
    split
    next r' h => rw [lA_keep n r' _ j hj, lay0_keep h hj]
    next => rfl
theorem lB_keep (S t : Nat) : ∀ (n : Nat) (r : Row) (j : Nat), (j < 50 ∨ 53 < j) → (lB S r t n).1 j = r j
  | 0, _, _, _ => rfl
  | n + 1, r, j, hj => by
    unfold lB
    split
    next r' h => rw [lB_keep S t n r' j hj, lay1_keep h hj]
    next => rfl
/-- both crews' part: the row, and whether all could be laid -/
def lAB (r : Row) (S t : Nat) : Row × Int32 := if (lA (clr r) 0 t).2 = 0 then ((lA (clr r) 0 t).1, 0) else lB S (lA (clr r) 0 t).1 t (S - t)
def tv (r : Row) (S t : Nat) : Int32 := if (lAB r S t).2 = 0 then -6 else (lAB r S t).1 48 + (lAB r S t).1 53
theorem lAB_keep (r : Row) (S t : Nat) {j : Nat} (hj : j < 45 ∨ j = 49 ∨ 53 < j) : (lAB r S t).1 j = r j := by
  unfold lAB
  split
  · show (lA (clr r) 0 t).1 j = r j
    rw [lA_keep _ _ _ _ (by omega), clr_keep r hj]
  · rw [lB_keep _ _ _ _ _ (by omega), lA_keep _ _ _ _ (by omega), clr_keep r hj]
section
variable {b : Nat} {h : xH} {σ : AS} {v2 v3 v4 v5 v6 v7 v8 v9 v10 v11 v12 v13 v1 : Value}
theorem m_tA {S t : Nat} (hS : S ≤ 20) (ht : t ≤ S) (h1 : h.2 b = .inr (8, [.ref (b + 1), v1, v2, v3, v4, v5, v6, v7, v8, v9, v10, v11, v12, v13])) : ∀ (n k : Nat) (r : Row), k + n = t → r 3 = nI S → 0 < r 0 → rn 134 40 [.ref b, .int (nI t), .int 1, .int (nI k), unk] [] (hw h (b + 1) r) = rn 134 71 [.ref b, .int (nI t), .int (lA r k n).2, .int (nI S - 1), unk] [] (hw h (b + 1) (lA r k n).1) := by
  have f1 : ∀ r, (hw h (b + 1) r).2 b = _ := fun r => hw_n (r := r) h1 (show b ≠ b + 1 by omega)
  have f2 := hw_w h (b + 1)
  intro n
  induction n with
  | zero =>
    intro k r hk h3 h0
    have c1 : ¬ nI k < nI t := nI_nlt (by omega) (by omega)
    rw [q134_40]
    simp only [q134_0, q134_1, q134_2, q134_3, q134_5, q134_8, q134_9, q134_12, q134_13, q134_14, q134_17, q134_18, q134_19, q134_20, q134_23, q134_26, q134_27, q134_28, q134_31, q134_32, q134_33, q134_36, q134_37, q134_38, q134_39, q134_41, q134_42, q134_45, q134_46, q134_49, q134_50, q134_51, q134_52, q134_55, q134_56, q134_59, q134_62, q134_63, q134_66, q134_67, q134_68, q134_69, q134_70, q134_72, q134_73, q134_76, q134_77, q134_80, q134_81, q134_82, q134_83, q134_86, q134_87, q134_90, q134_93, q134_94, q134_97, q134_98, q134_99, q134_102, q134_105, q134_107, q134_108, q134_109, q134_111, q134_113, q134_115, q134_118, q134_119, q134_122, q134_124, q134_125, q134_128, q134_130, q134_131, q134_132, q134_135, q134_138, q134_139, rv_v, rv_n, rh_v, mu_at, isF_r, isK_r, fld_r, fset_r, gd0, gd1, gd2, gd3, gd4, gd5, gd6, gd7, gd8, gd9, gd10, gd11, gd12, gd13, inA_l, inW_l, inZ_l, inQ_l, aget_l, aset_l, qget_l, qset_l, isA_l, isA_q, alen_l, k2_i, k2_a, k2_n, k2_u, k2_l, ite_si, Option.isSome_some, List.cons_append, List.nil_append, List.length_cons, List.length_nil, Nat.reduceAdd, Nat.zero_add, Nat.reduceLT, Nat.reduceEqDiff, decide_true, decide_false, Bool.and_self, Bool.and_true, Bool.true_and, ↓reduceIte, List.set_cons_zero, List.set_cons_succ, Nat.reduceSub, Nat.add_left_cancel_iff, Nat.add_eq_left, Nat.left_eq_add, not_true_eq_false, not_false_eq_true, reduceCtorEq, i10, i01, ib10, ib01, beq_self_eq_true, eq_self, Int32.reduceLT, Int32.reduceToNatClampNeg, Int32.reduceAdd, Int32.reduceSub, Int32.reduceMul, Bool.or_true, Bool.true_or, Bool.or_false, Bool.false_or, Nat.reduceBEq, Nat.reduceMul, c1, f1, f2, h3, lA]
  | succ n ih =>
    intro k r hk h3 h0
    have c1 : nI k < nI t := nI_lt (by omega) (by omega)
    have e1 := m_lays0 (h := h) (w := b + 1) (r := r) (k := k) (by omega) h0 h1 (by omega)
    rw [q134_40]
    cases hl : lay0 r k with
    | some r' =>
      rw [hl] at e1
      have := ih (k + 1) r' (by omega) (by rw [lay0_keep hl (by omega)]; exact h3) (by rw [lay0_keep hl (by omega)]; exact h0)
      simp only [q134_0, q134_1, q134_2, q134_3, q134_5, q134_8, q134_9, q134_12, q134_13, q134_14, q134_17, q134_18, q134_19, q134_20, q134_23, q134_26, q134_27, q134_28, q134_31, q134_32, q134_33, q134_36, q134_37, q134_38, q134_39, q134_41, q134_42, q134_45, q134_46, q134_49, q134_50, q134_51, q134_52, q134_55, q134_56, q134_59, q134_62, q134_63, q134_66, q134_67, q134_68, q134_69, q134_70, q134_72, q134_73, q134_76, q134_77, q134_80, q134_81, q134_82, q134_83, q134_86, q134_87, q134_90, q134_93, q134_94, q134_97, q134_98, q134_99, q134_102, q134_105, q134_107, q134_108, q134_109, q134_111, q134_113, q134_115, q134_118, q134_119, q134_122, q134_124, q134_125, q134_128, q134_130, q134_131, q134_132, q134_135, q134_138, q134_139, rv_v, rv_n, rh_v, mu_at, isF_r, isK_r, fld_r, fset_r, gd0, gd1, gd2, gd3, gd4, gd5, gd6, gd7, gd8, gd9, gd10, gd11, gd12, gd13, inA_l, inW_l, inZ_l, inQ_l, aget_l, aset_l, qget_l, qset_l, isA_l, isA_q, alen_l, k2_i, k2_a, k2_n, k2_u, k2_l, ite_si, Option.isSome_some, List.cons_append, List.nil_append, List.length_cons, List.length_nil, Nat.reduceAdd, Nat.zero_add, Nat.reduceLT, Nat.reduceEqDiff, decide_true, decide_false, Bool.and_self, Bool.and_true, Bool.true_and, ↓reduceIte, List.set_cons_zero, List.set_cons_succ, Nat.reduceSub, Nat.add_left_cancel_iff, Nat.add_eq_left, Nat.left_eq_add, not_true_eq_false, not_false_eq_true, reduceCtorEq, i10, i01, ib10, ib01, beq_self_eq_true, eq_self, Int32.reduceLT, Int32.reduceToNatClampNeg, Int32.reduceAdd, Int32.reduceSub, Int32.reduceMul, Bool.or_true, Bool.true_or, Bool.or_false, Bool.false_or, Nat.reduceBEq, Nat.reduceMul, c1, f1, f2, e1, oI, oR, nI_1, lA, hl]
      rw [this]
    | none =>
      rw [hl] at e1
      simp only [q134_0, q134_1, q134_2, q134_3, q134_5, q134_8, q134_9, q134_12, q134_13, q134_14, q134_17, q134_18, q134_19, q134_20, q134_23, q134_26, q134_27, q134_28, q134_31, q134_32, q134_33, q134_36, q134_37, q134_38, q134_39, q134_41, q134_42, q134_45, q134_46, q134_49, q134_50, q134_51, q134_52, q134_55, q134_56, q134_59, q134_62, q134_63, q134_66, q134_67, q134_68, q134_69, q134_70, q134_72, q134_73, q134_76, q134_77, q134_80, q134_81, q134_82, q134_83, q134_86, q134_87, q134_90, q134_93, q134_94, q134_97, q134_98, q134_99, q134_102, q134_105, q134_107, q134_108, q134_109, q134_111, q134_113, q134_115, q134_118, q134_119, q134_122, q134_124, q134_125, q134_128, q134_130, q134_131, q134_132, q134_135, q134_138, q134_139, rv_v, rv_n, rh_v, mu_at, isF_r, isK_r, fld_r, fset_r, gd0, gd1, gd2, gd3, gd4, gd5, gd6, gd7, gd8, gd9, gd10, gd11, gd12, gd13, inA_l, inW_l, inZ_l, inQ_l, aget_l, aset_l, qget_l, qset_l, isA_l, isA_q, alen_l, k2_i, k2_a, k2_n, k2_u, k2_l, ite_si, Option.isSome_some, List.cons_append, List.nil_append, List.length_cons, List.length_nil, Nat.reduceAdd, Nat.zero_add, Nat.reduceLT, Nat.reduceEqDiff, decide_true, decide_false, Bool.and_self, Bool.and_true, Bool.true_and, ↓reduceIte, List.set_cons_zero, List.set_cons_succ, Nat.reduceSub, Nat.add_left_cancel_iff, Nat.add_eq_left, Nat.left_eq_add, not_true_eq_false, not_false_eq_true, reduceCtorEq, i10, i01, ib10, ib01, beq_self_eq_true, eq_self, Int32.reduceLT, Int32.reduceToNatClampNeg, Int32.reduceAdd, Int32.reduceSub, Int32.reduceMul, Bool.or_true, Bool.true_or, Bool.or_false, Bool.false_or, Nat.reduceBEq, Nat.reduceMul, c1, f1, f2, e1, oI, oR, nI_1, lA, hl]
      rw [q134_40]
      by_cases c2 : nI (k + 1) < nI t
      · simp only [q134_0, q134_1, q134_2, q134_3, q134_5, q134_8, q134_9, q134_12, q134_13, q134_14, q134_17, q134_18, q134_19, q134_20, q134_23, q134_26, q134_27, q134_28, q134_31, q134_32, q134_33, q134_36, q134_37, q134_38, q134_39, q134_41, q134_42, q134_45, q134_46, q134_49, q134_50, q134_51, q134_52, q134_55, q134_56, q134_59, q134_62, q134_63, q134_66, q134_67, q134_68, q134_69, q134_70, q134_72, q134_73, q134_76, q134_77, q134_80, q134_81, q134_82, q134_83, q134_86, q134_87, q134_90, q134_93, q134_94, q134_97, q134_98, q134_99, q134_102, q134_105, q134_107, q134_108, q134_109, q134_111, q134_113, q134_115, q134_118, q134_119, q134_122, q134_124, q134_125, q134_128, q134_130, q134_131, q134_132, q134_135, q134_138, q134_139, rv_v, rv_n, rh_v, mu_at, isF_r, isK_r, fld_r, fset_r, gd0, gd1, gd2, gd3, gd4, gd5, gd6, gd7, gd8, gd9, gd10, gd11, gd12, gd13, inA_l, inW_l, inZ_l, inQ_l, aget_l, aset_l, qget_l, qset_l, isA_l, isA_q, alen_l, k2_i, k2_a, k2_n, k2_u, k2_l, ite_si, Option.isSome_some, List.cons_append, List.nil_append, List.length_cons, List.length_nil, Nat.reduceAdd, Nat.zero_add, Nat.reduceLT, Nat.reduceEqDiff, decide_true, decide_false, Bool.and_self, Bool.and_true, Bool.true_and, ↓reduceIte, List.set_cons_zero, List.set_cons_succ, Nat.reduceSub, Nat.add_left_cancel_iff, Nat.add_eq_left, Nat.left_eq_add, not_true_eq_false, not_false_eq_true, reduceCtorEq, i10, i01, ib10, ib01, beq_self_eq_true, eq_self, Int32.reduceLT, Int32.reduceToNatClampNeg, Int32.reduceAdd, Int32.reduceSub, Int32.reduceMul, Bool.or_true, Bool.true_or, Bool.or_false, Bool.false_or, Nat.reduceBEq, Nat.reduceMul, if_pos c2, f1, f2, h3]
      · simp only [q134_0, q134_1, q134_2, q134_3, q134_5, q134_8, q134_9, q134_12, q134_13, q134_14, q134_17, q134_18, q134_19, q134_20, q134_23, q134_26, q134_27, q134_28, q134_31, q134_32, q134_33, q134_36, q134_37, q134_38, q134_39, q134_41, q134_42, q134_45, q134_46, q134_49, q134_50, q134_51, q134_52, q134_55, q134_56, q134_59, q134_62, q134_63, q134_66, q134_67, q134_68, q134_69, q134_70, q134_72, q134_73, q134_76, q134_77, q134_80, q134_81, q134_82, q134_83, q134_86, q134_87, q134_90, q134_93, q134_94, q134_97, q134_98, q134_99, q134_102, q134_105, q134_107, q134_108, q134_109, q134_111, q134_113, q134_115, q134_118, q134_119, q134_122, q134_124, q134_125, q134_128, q134_130, q134_131, q134_132, q134_135, q134_138, q134_139, rv_v, rv_n, rh_v, mu_at, isF_r, isK_r, fld_r, fset_r, gd0, gd1, gd2, gd3, gd4, gd5, gd6, gd7, gd8, gd9, gd10, gd11, gd12, gd13, inA_l, inW_l, inZ_l, inQ_l, aget_l, aset_l, qget_l, qset_l, isA_l, isA_q, alen_l, k2_i, k2_a, k2_n, k2_u, k2_l, ite_si, Option.isSome_some, List.cons_append, List.nil_append, List.length_cons, List.length_nil, Nat.reduceAdd, Nat.zero_add, Nat.reduceLT, Nat.reduceEqDiff, decide_true, decide_false, Bool.and_self, Bool.and_true, Bool.true_and, ↓reduceIte, List.set_cons_zero, List.set_cons_succ, Nat.reduceSub, Nat.add_left_cancel_iff, Nat.add_eq_left, Nat.left_eq_add, not_true_eq_false, not_false_eq_true, reduceCtorEq, i10, i01, ib10, ib01, beq_self_eq_true, eq_self, Int32.reduceLT, Int32.reduceToNatClampNeg, Int32.reduceAdd, Int32.reduceSub, Int32.reduceMul, Bool.or_true, Bool.true_or, Bool.or_false, Bool.false_or, Nat.reduceBEq, Nat.reduceMul, if_neg c2, f1, f2, h3]
theorem m_tB0 {x : Int32} {t : Nat} {r : Row} (h1 : h.2 b = .inr (8, [.ref (b + 1), v1, v2, v3, v4, v5, v6, v7, v8, v9, v10, v11, v12, v13])) : rn 134 71 [.ref b, .int (nI t), .int 0, .int x, unk] [] (hw h (b + 1) r) = rn 134 108 [.ref b, .int (nI t), .int 0, .int (-6), unk] [] (hw h (b + 1) r) := by
  rw [q134_71]
  by_cases c2 : x < nI t
  · simp only [q134_0, q134_1, q134_2, q134_3, q134_5, q134_8, q134_9, q134_12, q134_13, q134_14, q134_17, q134_18, q134_19, q134_20, q134_23, q134_26, q134_27, q134_28, q134_31, q134_32, q134_33, q134_36, q134_37, q134_38, q134_39, q134_40, q134_41, q134_42, q134_45, q134_46, q134_49, q134_50, q134_51, q134_52, q134_55, q134_56, q134_59, q134_62, q134_63, q134_66, q134_67, q134_68, q134_69, q134_70, q134_72, q134_73, q134_76, q134_77, q134_80, q134_81, q134_82, q134_83, q134_86, q134_87, q134_90, q134_93, q134_94, q134_97, q134_98, q134_99, q134_102, q134_105, q134_107, q134_109, q134_111, q134_113, q134_115, q134_118, q134_119, q134_122, q134_124, q134_125, q134_128, q134_130, q134_131, q134_132, q134_135, q134_138, q134_139, rv_v, rv_n, rh_v, mu_at, isF_r, isK_r, fld_r, fset_r, gd0, gd1, gd2, gd3, gd4, gd5, gd6, gd7, gd8, gd9, gd10, gd11, gd12, gd13, inA_l, inW_l, inZ_l, inQ_l, aget_l, aset_l, qget_l, qset_l, isA_l, isA_q, alen_l, k2_i, k2_a, k2_n, k2_u, k2_l, ite_si, Option.isSome_some, List.cons_append, List.nil_append, List.length_cons, List.length_nil, Nat.reduceAdd, Nat.zero_add, Nat.reduceLT, Nat.reduceEqDiff, decide_true, decide_false, Bool.and_self, Bool.and_true, Bool.true_and, ↓reduceIte, List.set_cons_zero, List.set_cons_succ, Nat.reduceSub, Nat.add_left_cancel_iff, Nat.add_eq_left, Nat.left_eq_add, not_true_eq_false, not_false_eq_true, reduceCtorEq, i10, i01, ib10, ib01, beq_self_eq_true, eq_self, Int32.reduceLT, Int32.reduceToNatClampNeg, Int32.reduceAdd, Int32.reduceSub, Int32.reduceMul, Bool.or_true, Bool.true_or, Bool.or_false, Bool.false_or, Nat.reduceBEq, Nat.reduceMul, if_pos c2]
  · simp only [q134_0, q134_1, q134_2, q134_3, q134_5, q134_8, q134_9, q134_12, q134_13, q134_14, q134_17, q134_18, q134_19, q134_20, q134_23, q134_26, q134_27, q134_28, q134_31, q134_32, q134_33, q134_36, q134_37, q134_38, q134_39, q134_40, q134_41, q134_42, q134_45, q134_46, q134_49, q134_50, q134_51, q134_52, q134_55, q134_56, q134_59, q134_62, q134_63, q134_66, q134_67, q134_68, q134_69, q134_70, q134_72, q134_73, q134_76, q134_77, q134_80, q134_81, q134_82, q134_83, q134_86, q134_87, q134_90, q134_93, q134_94, q134_97, q134_98, q134_99, q134_102, q134_105, q134_107, q134_109, q134_111, q134_113, q134_115, q134_118, q134_119, q134_122, q134_124, q134_125, q134_128, q134_130, q134_131, q134_132, q134_135, q134_138, q134_139, rv_v, rv_n, rh_v, mu_at, isF_r, isK_r, fld_r, fset_r, gd0, gd1, gd2, gd3, gd4, gd5, gd6, gd7, gd8, gd9, gd10, gd11, gd12, gd13, inA_l, inW_l, inZ_l, inQ_l, aget_l, aset_l, qget_l, qset_l, isA_l, isA_q, alen_l, k2_i, k2_a, k2_n, k2_u, k2_l, ite_si, Option.isSome_some, List.cons_append, List.nil_append, List.length_cons, List.length_nil, Nat.reduceAdd, Nat.zero_add, Nat.reduceLT, Nat.reduceEqDiff, decide_true, decide_false, Bool.and_self, Bool.and_true, Bool.true_and, ↓reduceIte, List.set_cons_zero, List.set_cons_succ, Nat.reduceSub, Nat.add_left_cancel_iff, Nat.add_eq_left, Nat.left_eq_add, not_true_eq_false, not_false_eq_true, reduceCtorEq, i10, i01, ib10, ib01, beq_self_eq_true, eq_self, Int32.reduceLT, Int32.reduceToNatClampNeg, Int32.reduceAdd, Int32.reduceSub, Int32.reduceMul, Bool.or_true, Bool.true_or, Bool.or_false, Bool.false_or, Nat.reduceBEq, Nat.reduceMul, if_neg c2]
theorem m_tB {S t : Nat} (hS : S ≤ 20) (h1 : h.2 b = .inr (8, [.ref (b + 1), v1, v2, v3, v4, v5, v6, v7, v8, v9, v10, v11, v12, v13])) : ∀ (n : Nat) (r : Row), t + n ≤ S → r 3 = nI S → 0 < r 0 → rn 134 71 [.ref b, .int (nI t), .int 1, .int (nI (t + n) - 1), unk] [] (hw h (b + 1) r) = rn 134 108 [.ref b, .int (nI t), .int (lB S r t n).2, .int (if (lB S r t n).2 = 0 then -6 else (lB S r t n).1 48 + (lB S r t n).1 53), unk] [] (hw h (b + 1) (lB S r t n).1) := by
  have f1 : ∀ r, (hw h (b + 1) r).2 b = _ := fun r => hw_n (r := r) h1 (show b ≠ b + 1 by omega)
  have f2 := hw_w h (b + 1)
  intro n
  induction n with
  | zero =>
    intro r hk h3 h0
    have c1 : nI (t + 0) - 1 < nI t := by
      rw [Nat.add_zero, Int32.lt_iff_toInt_lt, show (1 : Int32) = nI 1 from rfl, pk_sub_toInt (by omega) (by omega), nI_toInt (by omega)]
      omega
    have e4 := m_both4 (h := hw h (b + 1) r) (f1 r) (f2 r)
    rw [q134_71]
    simp only [q134_0, q134_1, q134_2, q134_3, q134_5, q134_8, q134_9, q134_12, q134_13, q134_14, q134_17, q134_18, q134_19, q134_20, q134_23, q134_26, q134_27, q134_28, q134_31, q134_32, q134_33, q134_36, q134_37, q134_38, q134_39, q134_40, q134_41, q134_42, q134_45, q134_46, q134_49, q134_50, q134_51, q134_52, q134_55, q134_56, q134_59, q134_62, q134_63, q134_66, q134_67, q134_68, q134_69, q134_70, q134_72, q134_73, q134_76, q134_77, q134_80, q134_81, q134_82, q134_83, q134_86, q134_87, q134_90, q134_93, q134_94, q134_97, q134_98, q134_99, q134_102, q134_105, q134_107, q134_109, q134_111, q134_113, q134_115, q134_118, q134_119, q134_122, q134_124, q134_125, q134_128, q134_130, q134_131, q134_132, q134_135, q134_138, q134_139, rv_v, rv_n, rh_v, mu_at, isF_r, isK_r, fld_r, fset_r, gd0, gd1, gd2, gd3, gd4, gd5, gd6, gd7, gd8, gd9, gd10, gd11, gd12, gd13, inA_l, inW_l, inZ_l, inQ_l, aget_l, aset_l, qget_l, qset_l, isA_l, isA_q, alen_l, k2_i, k2_a, k2_n, k2_u, k2_l, ite_si, Option.isSome_some, List.cons_append, List.nil_append, List.length_cons, List.length_nil, Nat.reduceAdd, Nat.zero_add, Nat.reduceLT, Nat.reduceEqDiff, decide_true, decide_false, Bool.and_self, Bool.and_true, Bool.true_and, ↓reduceIte, List.set_cons_zero, List.set_cons_succ, Nat.reduceSub, Nat.add_left_cancel_iff, Nat.add_eq_left, Nat.left_eq_add, not_true_eq_false, not_false_eq_true, reduceCtorEq, i10, i01, ib10, ib01, beq_self_eq_true, eq_self, Int32.reduceLT, Int32.reduceToNatClampNeg, Int32.reduceAdd, Int32.reduceSub, Int32.reduceMul, Bool.or_true, Bool.true_or, Bool.or_false, Bool.false_or, Nat.reduceBEq, Nat.reduceMul, c1, f1, f2, e4, lB]
  | succ n ih =>
    intro r hk h3 h0
    have ex : nI (t + (n + 1)) - 1 = nI (t + n) := nI_pred (t + n)
    have c1 : ¬ nI (t + n) < nI t := nI_nlt (by omega) (by omega)
    have e1 := m_lays1 (h := h) (w := b + 1) (r := r) (k := t + n) (S := S) (by omega) hS h3 h0 h1 (by omega)
    rw [ex, q134_71]
    cases hl : lay1 r S (t + n) with
    | some r' =>
      rw [hl] at e1
      have := ih r' (by omega) (by rw [lay1_keep hl (by omega)]; exact h3) (by rw [lay1_keep hl (by omega)]; exact h0)
      simp only [q134_0, q134_1, q134_2, q134_3, q134_5, q134_8, q134_9, q134_12, q134_13, q134_14, q134_17, q134_18, q134_19, q134_20, q134_23, q134_26, q134_27, q134_28, q134_31, q134_32, q134_33, q134_36, q134_37, q134_38, q134_39, q134_40, q134_41, q134_42, q134_45, q134_46, q134_49, q134_50, q134_51, q134_52, q134_55, q134_56, q134_59, q134_62, q134_63, q134_66, q134_67, q134_68, q134_69, q134_70, q134_72, q134_73, q134_76, q134_77, q134_80, q134_81, q134_82, q134_83, q134_86, q134_87, q134_90, q134_93, q134_94, q134_97, q134_98, q134_99, q134_102, q134_105, q134_107, q134_109, q134_111, q134_113, q134_115, q134_118, q134_119, q134_122, q134_124, q134_125, q134_128, q134_130, q134_131, q134_132, q134_135, q134_138, q134_139, rv_v, rv_n, rh_v, mu_at, isF_r, isK_r, fld_r, fset_r, gd0, gd1, gd2, gd3, gd4, gd5, gd6, gd7, gd8, gd9, gd10, gd11, gd12, gd13, inA_l, inW_l, inZ_l, inQ_l, aget_l, aset_l, qget_l, qset_l, isA_l, isA_q, alen_l, k2_i, k2_a, k2_n, k2_u, k2_l, ite_si, Option.isSome_some, List.cons_append, List.nil_append, List.length_cons, List.length_nil, Nat.reduceAdd, Nat.zero_add, Nat.reduceLT, Nat.reduceEqDiff, decide_true, decide_false, Bool.and_self, Bool.and_true, Bool.true_and, ↓reduceIte, List.set_cons_zero, List.set_cons_succ, Nat.reduceSub, Nat.add_left_cancel_iff, Nat.add_eq_left, Nat.left_eq_add, not_true_eq_false, not_false_eq_true, reduceCtorEq, i10, i01, ib10, ib01, beq_self_eq_true, eq_self, Int32.reduceLT, Int32.reduceToNatClampNeg, Int32.reduceAdd, Int32.reduceSub, Int32.reduceMul, Bool.or_true, Bool.true_or, Bool.or_false, Bool.false_or, Nat.reduceBEq, Nat.reduceMul, c1, f1, f2, e1, oI, oR, lB, hl]
      rw [show nI (t + n) + -1 = nI (t + n) - 1 from (Int32.sub_eq_add_neg _ _).symm]
      rw [this]
    | none =>
      rw [hl] at e1
      simp only [q134_0, q134_1, q134_2, q134_3, q134_5, q134_8, q134_9, q134_12, q134_13, q134_14, q134_17, q134_18, q134_19, q134_20, q134_23, q134_26, q134_27, q134_28, q134_31, q134_32, q134_33, q134_36, q134_37, q134_38, q134_39, q134_40, q134_41, q134_42, q134_45, q134_46, q134_49, q134_50, q134_51, q134_52, q134_55, q134_56, q134_59, q134_62, q134_63, q134_66, q134_67, q134_68, q134_69, q134_70, q134_72, q134_73, q134_76, q134_77, q134_80, q134_81, q134_82, q134_83, q134_86, q134_87, q134_90, q134_93, q134_94, q134_97, q134_98, q134_99, q134_102, q134_105, q134_107, q134_109, q134_111, q134_113, q134_115, q134_118, q134_119, q134_122, q134_124, q134_125, q134_128, q134_130, q134_131, q134_132, q134_135, q134_138, q134_139, rv_v, rv_n, rh_v, mu_at, isF_r, isK_r, fld_r, fset_r, gd0, gd1, gd2, gd3, gd4, gd5, gd6, gd7, gd8, gd9, gd10, gd11, gd12, gd13, inA_l, inW_l, inZ_l, inQ_l, aget_l, aset_l, qget_l, qset_l, isA_l, isA_q, alen_l, k2_i, k2_a, k2_n, k2_u, k2_l, ite_si, Option.isSome_some, List.cons_append, List.nil_append, List.length_cons, List.length_nil, Nat.reduceAdd, Nat.zero_add, Nat.reduceLT, Nat.reduceEqDiff, decide_true, decide_false, Bool.and_self, Bool.and_true, Bool.true_and, ↓reduceIte, List.set_cons_zero, List.set_cons_succ, Nat.reduceSub, Nat.add_left_cancel_iff, Nat.add_eq_left, Nat.left_eq_add, not_true_eq_false, not_false_eq_true, reduceCtorEq, i10, i01, ib10, ib01, beq_self_eq_true, eq_self, Int32.reduceLT, Int32.reduceToNatClampNeg, Int32.reduceAdd, Int32.reduceSub, Int32.reduceMul, Bool.or_true, Bool.true_or, Bool.or_false, Bool.false_or, Nat.reduceBEq, Nat.reduceMul, c1, f1, f2, e1, oI, oR, lB, hl]
      exact m_tB0 h1
end
