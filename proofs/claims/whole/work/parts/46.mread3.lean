section
variable {b f s : Nat} {st le nu : Int32} {L : List Int32} {pf mn rs ts : Nat → Int32} {z : Nat × Nat} {m : xM} {h : xH} {σ : AS} {F : List Fl}
theorem m_rdSum (hf : F.length ≤ 15) (hF : HF mn rs ts F) (hW : ∀ o, o ∈ F → FW o) (h1 : h.2 b = MC b st le s nu F.length) (h7 : h.2 (b + 7) = .inl (0, 16, .inl mn)) : ∀ (d k a : Nat), k + d = F.length → rn 146 30 [.ref b, .int (nI a), .int (nI k), unk] [] h = rn 146 53 [.ref b, .int (nI (a + (stp (F.drop k)).length)), .int (nI F.length), unk] [] h := by
  intro d
  induction d with
  | zero =>
    intro k a hk
    obtain rfl : k = F.length := by omega
    have c1 : ¬ nI F.length < nI F.length := nI_nlt (Nat.le_refl _) (by omega)
    rw [q146_30, List.drop_length]
    simp only [q146_0, q146_1, q146_4, q146_7, q146_9, q146_10, q146_11, q146_12, q146_15, q146_18, q146_20, q146_21, q146_22, q146_25, q146_26, q146_27, q146_28, q146_29, q146_31, q146_32, q146_35, q146_38, q146_39, q146_40, q146_43, q146_44, q146_45, q146_46, q146_47, q146_50, q146_54, q146_56, q146_59, q146_61, q146_62, q146_63, q146_66, q146_67, q146_68, q146_69, q146_70, q146_73, q146_76, q146_77, q146_78, q146_79, q146_80, q146_83, q146_84, q146_85, q146_88, q146_89, q146_90, q146_93, q146_94, q146_95, q146_96, q146_99, q146_100, q146_101, q146_104, q146_107, q146_110, q146_113, q146_116, q146_117, q146_118, q146_121, q146_122, q146_125, q146_126, q146_127, rv_v, rv_n, rh_v, mu_at, isF_r, isK_r, fld_r, fset_r, gd0, gd1, gd2, gd3, gd4, gd5, gd6, gd7, gd8, gd9, gd10, gd11, gd12, gd13, inA_l, inW_l, inZ_l, inQ_l, aget_l, aset_l, qget_l, qset_l, isA_l, isA_q, alen_l, k2_i, k2_a, k2_n, k2_u, k2_l, ite_si, Option.isSome_some, List.cons_append, List.nil_append, List.length_cons, List.length_nil, Nat.reduceAdd, Nat.zero_add, Nat.reduceLT, Nat.reduceEqDiff, decide_true, decide_false, Bool.and_self, Bool.and_true, Bool.true_and, ↓reduceIte, List.set_cons_zero, List.set_cons_succ, Nat.reduceSub, Nat.add_left_cancel_iff, Nat.add_eq_left, Nat.left_eq_add, not_true_eq_false, not_false_eq_true, reduceCtorEq, i10, i01, ib10, ib01, beq_self_eq_true, eq_self, Int32.reduceLT, Int32.reduceToNatClampNeg, Int32.reduceAdd, Int32.reduceSub, Int32.reduceMul, Bool.or_true, Bool.true_or, Bool.or_false, Bool.false_or, Nat.reduceBEq, Nat.reduceMul, isF_C, isK_C, fC0, fC1, fC6, fC7, fC8, fC9, fC10, fC11, fC12, fC13, sC8, sC8z, sC9, sC10, sC10z, sw7, sw8, sw9, h1, c1, stp, Nat.add_zero]
  | succ d ih =>
    intro k a hk
    have hkl : k < F.length := by omega
    have c1 : nI k < nI F.length := nI_lt hkl (by omega)
    have c0 : ¬ nI k < 0 := nI_pos (by omega)
    have c2 : (nI k).toNatClampNeg = k := nI_clamp (by omega)
    have c3 : k < 16 := by omega
    have hm := (hF k F[k] (List.getElem?_eq_getElem hkl)).1
    have hw := (hW F[k] (List.getElem_mem hkl)).c
    rw [hw.1] at hm
    have ea : nI a + nI (cN F[k]) = nI (a + cN F[k]) := nI_add _ _
    have es : a + (stp (F.drop k)).length = a + cN F[k] + (stp (F.drop (k + 1))).length := by
      rw [List.drop_eq_getElem_cons hkl, stp, List.length_append, List.length_replicate, Nat.add_assoc]
    rw [es, ← ih (k + 1) _ (by omega), q146_30]
    simp only [q146_0, q146_1, q146_4, q146_7, q146_9, q146_10, q146_11, q146_12, q146_15, q146_18, q146_20, q146_21, q146_22, q146_25, q146_26, q146_27, q146_28, q146_29, q146_31, q146_32, q146_35, q146_38, q146_39, q146_40, q146_43, q146_44, q146_45, q146_46, q146_47, q146_50, q146_54, q146_56, q146_59, q146_61, q146_62, q146_63, q146_66, q146_67, q146_68, q146_69, q146_70, q146_73, q146_76, q146_77, q146_78, q146_79, q146_80, q146_83, q146_84, q146_85, q146_88, q146_89, q146_90, q146_93, q146_94, q146_95, q146_96, q146_99, q146_100, q146_101, q146_104, q146_107, q146_110, q146_113, q146_116, q146_117, q146_118, q146_121, q146_122, q146_125, q146_126, q146_127, rv_v, rv_n, rh_v, mu_at, isF_r, isK_r, fld_r, fset_r, gd0, gd1, gd2, gd3, gd4, gd5, gd6, gd7, gd8, gd9, gd10, gd11, gd12, gd13, inA_l, inW_l, inZ_l, inQ_l, aget_l, aset_l, qget_l, qset_l, isA_l, isA_q, alen_l, k2_i, k2_a, k2_n, k2_u, k2_l, ite_si, Option.isSome_some, List.cons_append, List.nil_append, List.length_cons, List.length_nil, Nat.reduceAdd, Nat.zero_add, Nat.reduceLT, Nat.reduceEqDiff, decide_true, decide_false, Bool.and_self, Bool.and_true, Bool.true_and, ↓reduceIte, List.set_cons_zero, List.set_cons_succ, Nat.reduceSub, Nat.add_left_cancel_iff, Nat.add_eq_left, Nat.left_eq_add, not_true_eq_false, not_false_eq_true, reduceCtorEq, i10, i01, ib10, ib01, beq_self_eq_true, eq_self, Int32.reduceLT, Int32.reduceToNatClampNeg, Int32.reduceAdd, Int32.reduceSub, Int32.reduceMul, Bool.or_true, Bool.true_or, Bool.or_false, Bool.false_or, Nat.reduceBEq, Nat.reduceMul, isF_C, isK_C, fC0, fC1, fC6, fC7, fC8, fC9, fC10, fC11, fC12, fC13, sC8, sC8z, sC9, sC10, sC10z, sw7, sw8, sw9, h1, h7, c1, c0, c2, c3, hm, ea, nI_1]
theorem m_rdIn {k c : Nat} {x y al : Int32} (hk : k < 15) (hc : c ≤ 20) (m1 : mn k = nI c) (m2 : rs k = x) (m3 : ts k = y) (h1 : h.2 b = MC b st le s nu f) (h7 : h.2 (b + 7) = .inl (0, 16, .inl mn)) (h8 : h.2 (b + 8) = .inl (0, 16, .inl rs)) (h9 : h.2 (b + 9) = .inl (0, 16, .inl ts)) : ∀ (d i S : Nat) (r : Row), i + d = c → S + d ≤ 20 → r 3 = nI S → rn 146 78 [.ref b, .int al, .int (nI k), .int (nI i)] [] (hw h (b + 1) r) = rn 146 110 [.ref b, .int al, .int (nI k), .int (nI c)] [] (hw h (b + 1) (bldL r S (List.replicate d (x, y)))) := by
  have f1 : ∀ r, (hw h (b + 1) r).2 b = _ := fun r => hw_n (r := r) h1 (by omega)
  have f7 : ∀ r, (hw h (b + 1) r).2 (b + 7) = _ := fun r => hw_n (r := r) h7 (by omega)
  have f8 : ∀ r, (hw h (b + 1) r).2 (b + 8) = _ := fun r => hw_n (r := r) h8 (by omega)
  have f9 : ∀ r, (hw h (b + 1) r).2 (b + 9) = _ := fun r => hw_n (r := r) h9 (by omega)
  have c0 : ¬ nI k < 0 := nI_pos (by omega)
  have c2 : (nI k).toNatClampNeg = k := nI_clamp (by omega)
  have c3 : k < 16 := by omega
  intro d
  induction d with
  | zero =>
    intro i S r hi hS h3
    obtain rfl : i = c := by omega
    have c1 : ¬ nI i < nI i := nI_nlt (Nat.le_refl _) (by omega)
    rw [q146_78]
    simp only [q146_0, q146_1, q146_4, q146_7, q146_9, q146_10, q146_11, q146_12, q146_15, q146_18, q146_20, q146_21, q146_22, q146_25, q146_26, q146_27, q146_28, q146_29, q146_30, q146_31, q146_32, q146_35, q146_38, q146_39, q146_40, q146_43, q146_44, q146_45, q146_46, q146_47, q146_50, q146_53, q146_54, q146_56, q146_59, q146_61, q146_62, q146_63, q146_66, q146_67, q146_68, q146_69, q146_70, q146_73, q146_76, q146_77, q146_79, q146_80, q146_83, q146_84, q146_85, q146_88, q146_89, q146_90, q146_93, q146_94, q146_95, q146_96, q146_99, q146_100, q146_101, q146_104, q146_107, q146_113, q146_116, q146_117, q146_118, q146_121, q146_122, q146_125, q146_126, q146_127, rv_v, rv_n, rh_v, mu_at, isF_r, isK_r, fld_r, fset_r, gd0, gd1, gd2, gd3, gd4, gd5, gd6, gd7, gd8, gd9, gd10, gd11, gd12, gd13, inA_l, inW_l, inZ_l, inQ_l, aget_l, aset_l, qget_l, qset_l, isA_l, isA_q, alen_l, k2_i, k2_a, k2_n, k2_u, k2_l, ite_si, Option.isSome_some, List.cons_append, List.nil_append, List.length_cons, List.length_nil, Nat.reduceAdd, Nat.zero_add, Nat.reduceLT, Nat.reduceEqDiff, decide_true, decide_false, Bool.and_self, Bool.and_true, Bool.true_and, ↓reduceIte, List.set_cons_zero, List.set_cons_succ, Nat.reduceSub, Nat.add_left_cancel_iff, Nat.add_eq_left, Nat.left_eq_add, not_true_eq_false, not_false_eq_true, reduceCtorEq, i10, i01, ib10, ib01, beq_self_eq_true, eq_self, Int32.reduceLT, Int32.reduceToNatClampNeg, Int32.reduceAdd, Int32.reduceSub, Int32.reduceMul, Bool.or_true, Bool.true_or, Bool.or_false, Bool.false_or, Nat.reduceBEq, Nat.reduceMul, isF_C, isK_C, fC0, fC1, fC6, fC7, fC8, fC9, fC10, fC11, fC12, fC13, sC8, sC8z, sC9, sC10, sC10z, sw7, sw8, sw9, f1, f7, c0, c2, c3, m1, c1, List.replicate_zero, bldL]
  | succ d ih =>
    intro i S r hi hS h3
    have c1 : nI i < nI c := nI_lt (by omega) (by omega)
    have ea : cl 116 [.ref b, .int x, .int y] (hw h (b + 1) r) = some (none, hw h (b + 1) (bld r S x y)) := by
      rw [m_add (h := hw h (b + 1) r) (w := b + 1) (show S < 20 by omega) x y h3 (f1 r) (hw_w h (b + 1) r) (by omega)]
      show some (none, hw (hw h (b + 1) r) (b + 1) _) = _
      rw [hw_hw]
      rfl
    have := ih (i + 1) (S + 1) (bld r S x y) (by omega) (by omega) (upd_s _ _ _)
    rw [List.replicate_succ]
    show _ = rn 146 110 _ [] (hw h (b + 1) (bldL (bld r S x y) (S + 1) (List.replicate d (x, y))))
    rw [← this, q146_78]
    simp only [q146_0, q146_1, q146_4, q146_7, q146_9, q146_10, q146_11, q146_12, q146_15, q146_18, q146_20, q146_21, q146_22, q146_25, q146_26, q146_27, q146_28, q146_29, q146_30, q146_31, q146_32, q146_35, q146_38, q146_39, q146_40, q146_43, q146_44, q146_45, q146_46, q146_47, q146_50, q146_53, q146_54, q146_56, q146_59, q146_61, q146_62, q146_63, q146_66, q146_67, q146_68, q146_69, q146_70, q146_73, q146_76, q146_77, q146_79, q146_80, q146_83, q146_84, q146_85, q146_88, q146_89, q146_90, q146_93, q146_94, q146_95, q146_96, q146_99, q146_100, q146_101, q146_104, q146_107, q146_113, q146_116, q146_117, q146_118, q146_121, q146_122, q146_125, q146_126, q146_127, rv_v, rv_n, rh_v, mu_at, isF_r, isK_r, fld_r, fset_r, gd0, gd1, gd2, gd3, gd4, gd5, gd6, gd7, gd8, gd9, gd10, gd11, gd12, gd13, inA_l, inW_l, inZ_l, inQ_l, aget_l, aset_l, qget_l, qset_l, isA_l, isA_q, alen_l, k2_i, k2_a, k2_n, k2_u, k2_l, ite_si, Option.isSome_some, List.cons_append, List.nil_append, List.length_cons, List.length_nil, Nat.reduceAdd, Nat.zero_add, Nat.reduceLT, Nat.reduceEqDiff, decide_true, decide_false, Bool.and_self, Bool.and_true, Bool.true_and, ↓reduceIte, List.set_cons_zero, List.set_cons_succ, Nat.reduceSub, Nat.add_left_cancel_iff, Nat.add_eq_left, Nat.left_eq_add, not_true_eq_false, not_false_eq_true, reduceCtorEq, i10, i01, ib10, ib01, beq_self_eq_true, eq_self, Int32.reduceLT, Int32.reduceToNatClampNeg, Int32.reduceAdd, Int32.reduceSub, Int32.reduceMul, Bool.or_true, Bool.true_or, Bool.or_false, Bool.false_or, Nat.reduceBEq, Nat.reduceMul, isF_C, isK_C, fC0, fC1, fC6, fC7, fC8, fC9, fC10, fC11, fC12, fC13, sC8, sC8z, sC9, sC10, sC10z, sw7, sw8, sw9, f1, f7, f8, f9, c0, c2, c3, m1, m2, m3, c1, ea, nI_1]
theorem m_rdOut {al : Int32} (hf : F.length ≤ 15) (hF : HF mn rs ts F) (hW : ∀ o, o ∈ F → FW o) (h1 : h.2 b = MC b st le s nu F.length) (h7 : h.2 (b + 7) = .inl (0, 16, .inl mn)) (h8 : h.2 (b + 8) = .inl (0, 16, .inl rs)) (h9 : h.2 (b + 9) = .inl (0, 16, .inl ts)) : ∀ (d k S : Nat) (r : Row) (v3 : Value), k + d = F.length → S + (stp (F.drop k)).length ≤ 20 → r 3 = nI S → ∃ v3', rn 146 68 [.ref b, .int al, .int (nI k), v3] [] (hw h (b + 1) r) = rn 146 116 [.ref b, .int al, .int (nI F.length), v3'] [] (hw h (b + 1) (bldL r S (stp (F.drop k)))) := by
  have f1 : ∀ r, (hw h (b + 1) r).2 b = _ := fun r => hw_n (r := r) h1 (by omega)
  intro d
  induction d with
  | zero =>
    intro k S r v3 hk hS h3
    obtain rfl : k = F.length := by omega
    have c1 : ¬ nI F.length < nI F.length := nI_nlt (Nat.le_refl _) (by omega)
    refine ⟨v3, ?_⟩
    rw [q146_68, List.drop_length]
    simp only [q146_0, q146_1, q146_4, q146_7, q146_9, q146_10, q146_11, q146_12, q146_15, q146_18, q146_20, q146_21, q146_22, q146_25, q146_26, q146_27, q146_28, q146_29, q146_30, q146_31, q146_32, q146_35, q146_38, q146_39, q146_40, q146_43, q146_44, q146_45, q146_46, q146_47, q146_50, q146_53, q146_54, q146_56, q146_59, q146_61, q146_62, q146_63, q146_66, q146_67, q146_69, q146_70, q146_73, q146_76, q146_77, q146_79, q146_80, q146_83, q146_84, q146_85, q146_88, q146_89, q146_90, q146_93, q146_94, q146_95, q146_96, q146_99, q146_100, q146_101, q146_104, q146_107, q146_113, q146_117, q146_118, q146_121, q146_122, q146_125, q146_126, q146_127, rv_v, rv_n, rh_v, mu_at, isF_r, isK_r, fld_r, fset_r, gd0, gd1, gd2, gd3, gd4, gd5, gd6, gd7, gd8, gd9, gd10, gd11, gd12, gd13, inA_l, inW_l, inZ_l, inQ_l, aget_l, aset_l, qget_l, qset_l, isA_l, isA_q, alen_l, k2_i, k2_a, k2_n, k2_u, k2_l, ite_si, Option.isSome_some, List.cons_append, List.nil_append, List.length_cons, List.length_nil, Nat.reduceAdd, Nat.zero_add, Nat.reduceLT, Nat.reduceEqDiff, decide_true, decide_false, Bool.and_self, Bool.and_true, Bool.true_and, ↓reduceIte, List.set_cons_zero, List.set_cons_succ, Nat.reduceSub, Nat.add_left_cancel_iff, Nat.add_eq_left, Nat.left_eq_add, not_true_eq_false, not_false_eq_true, reduceCtorEq, i10, i01, ib10, ib01, beq_self_eq_true, eq_self, Int32.reduceLT, Int32.reduceToNatClampNeg, Int32.reduceAdd, Int32.reduceSub, Int32.reduceMul, Bool.or_true, Bool.true_or, Bool.or_false, Bool.false_or, Nat.reduceBEq, Nat.reduceMul, isF_C, isK_C, fC0, fC1, fC6, fC7, fC8, fC9, fC10, fC11, fC12, fC13, sC8, sC8z, sC9, sC10, sC10z, sw7, sw8, sw9, f1, c1, stp, bldL]
  | succ d ih =>
    intro k S r v3 hk hS h3
    have hkl : k < F.length := by omega
    have c1 : nI k < nI F.length := nI_lt hkl (by omega)
    have hm := hF k F[k] (List.getElem?_eq_getElem hkl)
    have hw' := (hW F[k] (List.getElem_mem hkl)).c
    rw [hw'.1] at hm
    rw [List.drop_eq_getElem_cons hkl, stp] at hS ⊢
    rw [List.length_append, List.length_replicate] at hS
    have hin := m_rdIn (al := al) (k := k) (c := cN F[k]) (by omega) hw'.2.2 hm.1 hm.2.1 hm.2.2 h1 h7 h8 h9 (cN F[k]) 0 S r (by omega) (by omega) h3
    rw [show nI 0 = 0 from rfl] at hin
    obtain ⟨v3', e⟩ := ih (k + 1) (S + cN F[k]) (bldL r S (List.replicate (cN F[k]) (F[k].2.1, F[k].2.2))) (.int (nI (cN F[k]))) (by omega) (by omega) (by rw [bldL_3 _ _ _ h3, List.length_replicate])
    refine ⟨v3', ?_⟩
    rw [bldL_app, List.length_replicate, ← e, q146_68]
    simp only [q146_0, q146_1, q146_4, q146_7, q146_9, q146_10, q146_11, q146_12, q146_15, q146_18, q146_20, q146_21, q146_22, q146_25, q146_26, q146_27, q146_28, q146_29, q146_30, q146_31, q146_32, q146_35, q146_38, q146_39, q146_40, q146_43, q146_44, q146_45, q146_46, q146_47, q146_50, q146_53, q146_54, q146_56, q146_59, q146_61, q146_62, q146_63, q146_66, q146_67, q146_69, q146_70, q146_73, q146_76, q146_77, q146_79, q146_80, q146_83, q146_84, q146_85, q146_88, q146_89, q146_90, q146_93, q146_94, q146_95, q146_96, q146_99, q146_100, q146_101, q146_104, q146_107, q146_113, q146_117, q146_118, q146_121, q146_122, q146_125, q146_126, q146_127, rv_v, rv_n, rh_v, mu_at, isF_r, isK_r, fld_r, fset_r, gd0, gd1, gd2, gd3, gd4, gd5, gd6, gd7, gd8, gd9, gd10, gd11, gd12, gd13, inA_l, inW_l, inZ_l, inQ_l, aget_l, aset_l, qget_l, qset_l, isA_l, isA_q, alen_l, k2_i, k2_a, k2_n, k2_u, k2_l, ite_si, Option.isSome_some, List.cons_append, List.nil_append, List.length_cons, List.length_nil, Nat.reduceAdd, Nat.zero_add, Nat.reduceLT, Nat.reduceEqDiff, decide_true, decide_false, Bool.and_self, Bool.and_true, Bool.true_and, ↓reduceIte, List.set_cons_zero, List.set_cons_succ, Nat.reduceSub, Nat.add_left_cancel_iff, Nat.add_eq_left, Nat.left_eq_add, not_true_eq_false, not_false_eq_true, reduceCtorEq, i10, i01, ib10, ib01, beq_self_eq_true, eq_self, Int32.reduceLT, Int32.reduceToNatClampNeg, Int32.reduceAdd, Int32.reduceSub, Int32.reduceMul, Bool.or_true, Bool.true_or, Bool.or_false, Bool.false_or, Nat.reduceBEq, Nat.reduceMul, isF_C, isK_C, fC0, fC1, fC6, fC7, fC8, fC9, fC10, fC11, fC12, fC13, sC8, sC8z, sC9, sC10, sC10z, sw7, sw8, sw9, f1, c1, hin]
    rw [q146_110]
    simp only [q146_0, q146_1, q146_4, q146_7, q146_9, q146_10, q146_11, q146_12, q146_15, q146_18, q146_20, q146_21, q146_22, q146_25, q146_26, q146_27, q146_28, q146_29, q146_30, q146_31, q146_32, q146_35, q146_38, q146_39, q146_40, q146_43, q146_44, q146_45, q146_46, q146_47, q146_50, q146_53, q146_54, q146_56, q146_59, q146_61, q146_62, q146_63, q146_66, q146_67, q146_69, q146_70, q146_73, q146_76, q146_77, q146_79, q146_80, q146_83, q146_84, q146_85, q146_88, q146_89, q146_90, q146_93, q146_94, q146_95, q146_96, q146_99, q146_100, q146_101, q146_104, q146_107, q146_113, q146_117, q146_118, q146_121, q146_122, q146_125, q146_126, q146_127, rv_v, rv_n, rh_v, mu_at, isF_r, isK_r, fld_r, fset_r, gd0, gd1, gd2, gd3, gd4, gd5, gd6, gd7, gd8, gd9, gd10, gd11, gd12, gd13, inA_l, inW_l, inZ_l, inQ_l, aget_l, aset_l, qget_l, qset_l, isA_l, isA_q, alen_l, k2_i, k2_a, k2_n, k2_u, k2_l, ite_si, Option.isSome_some, List.cons_append, List.nil_append, List.length_cons, List.length_nil, Nat.reduceAdd, Nat.zero_add, Nat.reduceLT, Nat.reduceEqDiff, decide_true, decide_false, Bool.and_self, Bool.and_true, Bool.true_and, ↓reduceIte, List.set_cons_zero, List.set_cons_succ, Nat.reduceSub, Nat.add_left_cancel_iff, Nat.add_eq_left, Nat.left_eq_add, not_true_eq_false, not_false_eq_true, reduceCtorEq, i10, i01, ib10, ib01, beq_self_eq_true, eq_self, Int32.reduceLT, Int32.reduceToNatClampNeg, Int32.reduceAdd, Int32.reduceSub, Int32.reduceMul, Bool.or_true, Bool.true_or, Bool.or_false, Bool.false_or, Nat.reduceBEq, Nat.reduceMul, nI_1]
end
