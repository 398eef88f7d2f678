theorem lA_01 : ∀ (n : Nat) (r : Row) (k : Nat), ¬ (lA r k n).2 = 0 → (lA r k n).2 = 1
  | 0, _, _, _ => rfl
  | n + 1, r, k, h => by
    unfold lA at h ⊢
    split at h
    next r' hl => exact lA_01 n r' (k + 1) h
    next => exact absurd rfl h
theorem lAB_0 {r : Row} {S t : Nat} (h : (lA (clr r) 0 t).2 = 0) : lAB r S t = ((lA (clr r) 0 t).1, 0) := by
  unfold lAB
  rw [if_pos h]
theorem lAB_1 {r : Row} {S t : Nat} (h : ¬ (lA (clr r) 0 t).2 = 0) : lAB r S t = lB S (lA (clr r) 0 t).1 t (S - t) := by
  unfold lAB
  rw [if_neg h]
section
variable {b : Nat} {h : xH} {σ : AS} {st le sp nu fl : Int32}
theorem m_tMid {v2 v3 v4 v5 v6 v7 v8 v9 v10 v11 v12 v13 v1 : Value} {S t : Nat} {r : Row} (hS : S ≤ 20) (ht : t ≤ S) (h1 : h.2 b = .inr (8, [.ref (b + 1), v1, v2, v3, v4, v5, v6, v7, v8, v9, v10, v11, v12, v13])) (h3 : r 3 = nI S) (h0 : 0 < r 0) : rn 134 40 [.ref b, .int (nI t), .int 1, .int 0, unk] [] (hw h (b + 1) (clr r)) = rn 134 108 [.ref b, .int (nI t), .int (lAB r S t).2, .int (tv r S t), unk] [] (hw h (b + 1) (lAB r S t).1) := by
  have k3 : (clr r) 3 = nI S := by rw [clr_keep _ (by omega)]; exact h3
  have k0 : 0 < (clr r) 0 := by rw [clr_keep _ (by omega)]; exact h0
  have e1 := m_tA hS ht h1 t 0 (clr r) (by omega) k3 k0
  rw [show nI 0 = 0 from rfl] at e1
  rw [e1]
  by_cases c : (lA (clr r) 0 t).2 = 0
  · have e2 := m_tB0 (x := nI S - 1) (t := t) (r := (lA (clr r) 0 t).1) h1
    have e3 : tv r S t = -6 := by unfold tv; rw [lAB_0 c]; exact if_pos rfl
    rw [e3, lAB_0 c, c]
    exact e2
  · have e2 := m_tB (t := t) hS h1 (S - t) (lA (clr r) 0 t).1 (by omega) (by rw [lA_keep _ _ _ _ (by omega)]; exact k3) (by rw [lA_keep _ _ _ _ (by omega)]; exact k0)
    rw [show t + (S - t) = S by omega] at e2
    have e3 : tv r S t = if (lB S (lA (clr r) 0 t).1 t (S - t)).2 = 0 then -6 else (lB S (lA (clr r) 0 t).1 t (S - t)).1 48 + (lB S (lA (clr r) 0 t).1 t (S - t)).1 53 := by
      unfold tv; rw [lAB_1 c]
    rw [e3, lAB_1 c, lA_01 _ _ _ c]
    exact e2
theorem m_tLoop1 {r : Nat → Int32} {t : Int32} (h1 : h.2 b = MO b st le sp nu fl) (hr : h.2 (b + 1) = .inl (0, 54, .inl r)) : ∀ (d k : Nat) (g : Nat → Int32), k + d = 54 → rn 134 2 [.ref b, .int t, .int (nI k), unk, unk] [] (aw h (b + 5) 54 g) = rn 134 26 [.ref b, .int t, .int (nI 54), unk, unk] [] (aw h (b + 5) 54 (bcs r g 0 0 k 54)) := by
  intro d
  unfold MO at h1
  have f1 : ∀ g, (aw h (b + 5) 54 g).2 b = _ := fun g => aw_n (f := g) h1 (by omega)
  have f2 := aw_w h (b + 5) 54
  have f3 : ∀ g, (aw h (b + 5) 54 g).2 (b + 1) = _ := fun g => aw_n (f := g) hr (by omega)
  induction d with
  | zero =>
    intro k g hk
    obtain rfl : k = 54 := by omega
    rw [q134_2]
    simp only [q134_3, q134_5, show ¬ nI 54 < 54 by decide, ↓reduceIte]
    rw [bcs_end]
  | succ d ih =>
    intro k g hk
    have c0 : ¬ nI k < 0 := nI_pos (by omega)
    have c1 : nI k < 54 := nI_lt (b := 54) (by omega) (by decide)
    have c2 : (nI k).toNatClampNeg = k := nI_clamp (by omega)
    have c3 : k < 54 := by omega
    rw [q134_2]
    simp only [q134_0, q134_1, q134_3, q134_5, q134_8, q134_9, q134_12, q134_13, q134_14, q134_17, q134_18, q134_19, q134_20, q134_23, q134_27, q134_28, q134_31, q134_32, q134_33, q134_36, q134_37, q134_38, q134_39, q134_40, q134_41, q134_42, q134_45, q134_46, q134_49, q134_50, q134_51, q134_52, q134_55, q134_56, q134_59, q134_62, q134_63, q134_66, q134_67, q134_68, q134_69, q134_70, q134_71, q134_72, q134_73, q134_76, q134_77, q134_80, q134_81, q134_82, q134_83, q134_86, q134_87, q134_90, q134_93, q134_94, q134_97, q134_98, q134_99, q134_102, q134_105, q134_107, q134_108, q134_109, q134_111, q134_113, q134_115, q134_118, q134_119, q134_122, q134_124, q134_125, q134_128, q134_130, q134_131, q134_132, q134_135, q134_138, q134_139, rv_v, rv_n, rh_v, mu_at, isF_r, isK_r, fld_r, fset_r, gd0, gd1, gd2, gd3, gd4, gd5, gd6, gd7, gd8, gd9, gd10, gd11, gd12, gd13, inA_l, inW_l, inZ_l, inQ_l, aget_l, aset_l, qget_l, qset_l, isA_l, isA_q, alen_l, k2_i, k2_a, k2_n, k2_u, k2_l, ite_si, Option.isSome_some, List.cons_append, List.nil_append, List.length_cons, List.length_nil, Nat.reduceAdd, Nat.zero_add, Nat.reduceLT, Nat.reduceEqDiff, decide_true, decide_false, Bool.and_self, Bool.and_true, Bool.true_and, ↓reduceIte, List.set_cons_zero, List.set_cons_succ, Nat.reduceSub, Nat.add_left_cancel_iff, Nat.add_eq_left, Nat.left_eq_add, not_true_eq_false, not_false_eq_true, reduceCtorEq, i10, i01, ib10, ib01, beq_self_eq_true, eq_self, Int32.reduceLT, Int32.reduceToNatClampNeg, Int32.reduceAdd, Int32.reduceSub, Int32.reduceMul, Bool.or_true, Bool.true_or, Bool.or_false, Bool.false_or, Nat.reduceBEq, Nat.reduceMul, f1, f2, f3, c0, c1, c2, c3, nI_1]
    rw [aw_aw, ih (k + 1) _ (by omega)]
    have := bcs_step r g 0 0 c3
    rw [Nat.zero_add] at this
    rw [this]
theorem m_tLoop2 {r : Nat → Int32} {t x y : Int32} (h1 : h.2 b = MO b st le sp nu fl) (hr : h.2 (b + 5) = .inl (0, 54, .inl r)) : ∀ (d k : Nat) (g : Nat → Int32), k + d = 54 → rn 134 111 [.ref b, .int t, .int x, .int y, .int (nI k)] [] (aw h (b + 1) 54 g) = rn 134 138 [.ref b, .int t, .int x, .int y, .int (nI 54)] [] (aw h (b + 1) 54 (bcs r g 0 0 k 54)) := by
  intro d
  unfold MO at h1
  have f1 : ∀ g, (aw h (b + 1) 54 g).2 b = _ := fun g => aw_n (f := g) h1 (by omega)
  have f2 := aw_w h (b + 1) 54
  have f3 : ∀ g, (aw h (b + 1) 54 g).2 (b + 5) = _ := fun g => aw_n (f := g) hr (by omega)
  induction d with
  | zero =>
    intro k g hk
    obtain rfl : k = 54 := by omega
    rw [q134_111]
    simp only [q134_113, q134_115, show ¬ nI 54 < 54 by decide, ↓reduceIte]
    rw [bcs_end]
  | succ d ih =>
    intro k g hk
    have c0 : ¬ nI k < 0 := nI_pos (by omega)
    have c1 : nI k < 54 := nI_lt (b := 54) (by omega) (by decide)
    have c2 : (nI k).toNatClampNeg = k := nI_clamp (by omega)
    have c3 : k < 54 := by omega
    rw [q134_111]
    simp only [q134_0, q134_1, q134_2, q134_3, q134_5, q134_8, q134_9, q134_12, q134_13, q134_14, q134_17, q134_18, q134_19, q134_20, q134_23, q134_26, q134_27, q134_28, q134_31, q134_32, q134_33, q134_36, q134_37, q134_38, q134_39, q134_40, q134_41, q134_42, q134_45, q134_46, q134_49, q134_50, q134_51, q134_52, q134_55, q134_56, q134_59, q134_62, q134_63, q134_66, q134_67, q134_68, q134_69, q134_70, q134_71, q134_72, q134_73, q134_76, q134_77, q134_80, q134_81, q134_82, q134_83, q134_86, q134_87, q134_90, q134_93, q134_94, q134_97, q134_98, q134_99, q134_102, q134_105, q134_107, q134_108, q134_109, q134_113, q134_115, q134_118, q134_119, q134_122, q134_124, q134_125, q134_128, q134_130, q134_131, q134_132, q134_135, q134_139, rv_v, rv_n, rh_v, mu_at, isF_r, isK_r, fld_r, fset_r, gd0, gd1, gd2, gd3, gd4, gd5, gd6, gd7, gd8, gd9, gd10, gd11, gd12, gd13, inA_l, inW_l, inZ_l, inQ_l, aget_l, aset_l, qget_l, qset_l, isA_l, isA_q, alen_l, k2_i, k2_a, k2_n, k2_u, k2_l, ite_si, Option.isSome_some, List.cons_append, List.nil_append, List.length_cons, List.length_nil, Nat.reduceAdd, Nat.zero_add, Nat.reduceLT, Nat.reduceEqDiff, decide_true, decide_false, Bool.and_self, Bool.and_true, Bool.true_and, ↓reduceIte, List.set_cons_zero, List.set_cons_succ, Nat.reduceSub, Nat.add_left_cancel_iff, Nat.add_eq_left, Nat.left_eq_add, not_true_eq_false, not_false_eq_true, reduceCtorEq, i10, i01, ib10, ib01, beq_self_eq_true, eq_self, Int32.reduceLT, Int32.reduceToNatClampNeg, Int32.reduceAdd, Int32.reduceSub, Int32.reduceMul, Bool.or_true, Bool.true_or, Bool.or_false, Bool.false_or, Nat.reduceBEq, Nat.reduceMul, f1, f2, f3, c0, c1, c2, c3, nI_1]
    rw [aw_aw, ih (k + 1) _ (by omega)]
    have := bcs_step r g 0 0 c3
    rw [Nat.zero_add] at this
    rw [this]
theorem mm_trims {S t : Nat} (hS : S ≤ 20) (ht : t ≤ S) (h3 : σ.1 3 = nI S) (h0 : 0 < σ.1 0) : mDo 134 b [.int (nI t)] σ (tv σ.1 S t) σ := by
  intro h hM
  obtain ⟨sp, nu, fl, hf, sf, bf, asd, pf, mn, rs, ts, a1, a2, a3, a4, a5, a6, a7, a8, a9, a10, a11, a12, a13, a14, a15, a16, a17, a18⟩ := hM
  have k1 := m_tLoop1 (t := nI t) a1 a3 54 0 asd (by omega)
  rw [show nI 0 = 0 from rfl, aw_eq a12] at k1
  generalize hA : bcs σ.1 asd 0 0 0 54 = A at k1
  have hAk : ∀ j, j < 54 → A j = σ.1 j := fun j hj => by
    rw [← hA]; unfold bcs; rw [if_pos (by omega), Nat.zero_add, Nat.sub_zero]
  have a1' := a1
  unfold MO at a1'
  have g1 : (aw h (b + 5) 54 A).2 b = _ := aw_n (f := A) a1 (by omega)
  have g1' : (aw h (b + 5) 54 A).2 b = _ := aw_n (f := A) a1' (by omega)
  have g2 : (aw h (b + 5) 54 A).2 (b + 1) = _ := aw_n (f := A) a3 (by omega)
  have g3 := aw_w h (b + 5) 54 A
  have e1 := m_clear0 (h := aw h (b + 5) 54 A) (w := b + 1) (r := σ.1) g1' (by omega)
  rw [hw_eq g2] at e1
  have e2 : ∀ r, _ := fun r => m_clear1 (h := aw h (b + 5) 54 A) (w := b + 1) (r := r) g1' (by omega)
  have f1 : ∀ r, (hw (aw h (b + 5) 54 A) (b + 1) r).2 b = _ := fun r => hw_n (r := r) g1' (show b ≠ b + 1 by omega)
  have k2 := m_tMid (h := aw h (b + 5) 54 A) hS ht g1' h3 h0
  have k3 := m_tLoop2 (h := aw h (b + 5) 54 A) (t := nI t) (x := (lAB σ.1 S t).2) (y := tv σ.1 S t) g1 g3 54 0 (lAB σ.1 S t).1 (by omega)
  rw [show nI 0 = 0 from rfl] at k3
  have er : bcs A (lAB σ.1 S t).1 0 0 0 54 = σ.1 := by
    funext j
    unfold bcs
    by_cases hj : j < 54
    · rw [if_pos (by omega), Nat.zero_add, hAk _ (by omega), Nat.sub_zero]
    · rw [if_neg (by omega), lAB_keep _ _ _ (by omega)]
  rw [er, show aw (aw h (b + 5) 54 A) (b + 1) 54 σ.1 = aw h (b + 5) 54 A from hw_eq g2] at k3
  refine ⟨mu h.2 (b + 5) (.inl (0, 54, .inl A)), ?_, ⟨sp, nu, fl, hf, sf, bf, A, pf, mn, rs, ts, by rw [mu_n _ _ (by omega)]; exact a1, a2, by rw [mu_n _ _ (by omega)]; exact a3, by rw [mu_n _ _ (by omega)]; exact a4, a5, by rw [mu_n _ _ (by omega)]; exact a6, a7, a8, by rw [mu_n _ _ (by omega)]; exact a9, a10, a11, mu_s _ _ _, by rw [mu_n _ _ (by omega)]; exact a13, a14, a15, by rw [mu_n _ _ (by omega)]; exact a16, by rw [mu_n _ _ (by omega)]; exact a17, by rw [mu_n _ _ (by omega)]; exact a18⟩, fB.rf.mu (by omega) (by omega)⟩
  have s1 : cl 134 [.ref b, .int (nI t)] h = rn 134 26 [.ref b, .int (nI t), .int (nI 54), unk, unk] [] (aw h (b + 5) 54 A) := by
    rw [← k1]
    simp only [c134, q134_0, q134_1, rv_v, rv_n, rh_v, mu_at, isF_r, isK_r, fld_r, fset_r, gd0, gd1, gd2, gd3, gd4, gd5, gd6, gd7, gd8, gd9, gd10, gd11, gd12, gd13, inA_l, inW_l, inZ_l, inQ_l, aget_l, aset_l, qget_l, qset_l, isA_l, isA_q, alen_l, k2_i, k2_a, k2_n, k2_u, k2_l, ite_si, Option.isSome_some, List.cons_append, List.nil_append, List.length_cons, List.length_nil, Nat.reduceAdd, Nat.zero_add, Nat.reduceLT, Nat.reduceEqDiff, decide_true, decide_false, Bool.and_self, Bool.and_true, Bool.true_and, ↓reduceIte, List.set_cons_zero, List.set_cons_succ, Nat.reduceSub, Nat.add_left_cancel_iff, Nat.add_eq_left, Nat.left_eq_add, not_true_eq_false, not_false_eq_true, reduceCtorEq, i10, i01, ib10, ib01, beq_self_eq_true, eq_self, Int32.reduceLT, Int32.reduceToNatClampNeg, Int32.reduceAdd, Int32.reduceSub, Int32.reduceMul, Bool.or_true, Bool.true_or, Bool.or_false, Bool.false_or, Nat.reduceBEq, Nat.reduceMul]
  have s2 : rn 134 26 [.ref b, .int (nI t), .int (nI 54), unk, unk] [] (aw h (b + 5) 54 A) = rn 134 40 [.ref b, .int (nI t), .int 1, .int 0, unk] [] (hw (aw h (b + 5) 54 A) (b + 1) (clr σ.1)) := by
    simp only [q134_0, q134_1, q134_3, q134_5, q134_8, q134_9, q134_12, q134_13, q134_14, q134_17, q134_18, q134_19, q134_20, q134_23, q134_26, q134_27, q134_28, q134_31, q134_32, q134_33, q134_36, q134_37, q134_38, q134_39, q134_41, q134_42, q134_45, q134_46, q134_49, q134_50, q134_51, q134_52, q134_55, q134_56, q134_59, q134_62, q134_63, q134_66, q134_67, q134_68, q134_69, q134_70, q134_72, q134_73, q134_76, q134_77, q134_80, q134_81, q134_82, q134_83, q134_86, q134_87, q134_90, q134_93, q134_94, q134_97, q134_98, q134_99, q134_102, q134_105, q134_107, q134_109, q134_113, q134_115, q134_118, q134_119, q134_122, q134_124, q134_125, q134_128, q134_130, q134_131, q134_132, q134_135, q134_139, rv_v, rv_n, rh_v, mu_at, isF_r, isK_r, fld_r, fset_r, gd0, gd1, gd2, gd3, gd4, gd5, gd6, gd7, gd8, gd9, gd10, gd11, gd12, gd13, inA_l, inW_l, inZ_l, inQ_l, aget_l, aset_l, qget_l, qset_l, isA_l, isA_q, alen_l, k2_i, k2_a, k2_n, k2_u, k2_l, ite_si, Option.isSome_some, List.cons_append, List.nil_append, List.length_cons, List.length_nil, Nat.reduceAdd, Nat.zero_add, Nat.reduceLT, Nat.reduceEqDiff, decide_true, decide_false, Bool.and_self, Bool.and_true, Bool.true_and, ↓reduceIte, List.set_cons_zero, List.set_cons_succ, Nat.reduceSub, Nat.add_left_cancel_iff, Nat.add_eq_left, Nat.left_eq_add, not_true_eq_false, not_false_eq_true, reduceCtorEq, i10, i01, ib10, ib01, beq_self_eq_true, eq_self, Int32.reduceLT, Int32.reduceToNatClampNeg, Int32.reduceAdd, Int32.reduceSub, Int32.reduceMul, Bool.or_true, Bool.true_or, Bool.or_false, Bool.false_or, Nat.reduceBEq, Nat.reduceMul, g1', e1, e2, f1]
    rfl
  have s3 : rn 134 108 [.ref b, .int (nI t), .int (lAB σ.1 S t).2, .int (tv σ.1 S t), unk] [] (hw (aw h (b + 5) 54 A) (b + 1) (lAB σ.1 S t).1) = rn 134 111 [.ref b, .int (nI t), .int (lAB σ.1 S t).2, .int (tv σ.1 S t), .int 0] [] (aw (aw h (b + 5) 54 A) (b + 1) 54 (lAB σ.1 S t).1) := by
    simp only [q134_108, q134_109, rv_v, rv_n, rh_v, mu_at, isF_r, isK_r, fld_r, fset_r, gd0, gd1, gd2, gd3, gd4, gd5, gd6, gd7, gd8, gd9, gd10, gd11, gd12, gd13, inA_l, inW_l, inZ_l, inQ_l, aget_l, aset_l, qget_l, qset_l, isA_l, isA_q, alen_l, k2_i, k2_a, k2_n, k2_u, k2_l, ite_si, Option.isSome_some, List.cons_append, List.nil_append, List.length_cons, List.length_nil, Nat.reduceAdd, Nat.zero_add, Nat.reduceLT, Nat.reduceEqDiff, decide_true, decide_false, Bool.and_self, Bool.and_true, Bool.true_and, ↓reduceIte, List.set_cons_zero, List.set_cons_succ, Nat.reduceSub, Nat.add_left_cancel_iff, Nat.add_eq_left, Nat.left_eq_add, not_true_eq_false, not_false_eq_true, reduceCtorEq, i10, i01, ib10, ib01, beq_self_eq_true, eq_self, Int32.reduceLT, Int32.reduceToNatClampNeg, Int32.reduceAdd, Int32.reduceSub, Int32.reduceMul, Bool.or_true, Bool.true_or, Bool.or_false, Bool.false_or, Nat.reduceBEq, Nat.reduceMul]
    rfl
  show cl 134 [.ref b, .int (nI t)] h = _
  rw [s1, s2, k2, s3, k3]
  simp only [q134_138, q134_139, rv_v, rv_n, rh_v, mu_at, isF_r, isK_r, fld_r, fset_r, gd0, gd1, gd2, gd3, gd4, gd5, gd6, gd7, gd8, gd9, gd10, gd11, gd12, gd13, inA_l, inW_l, inZ_l, inQ_l, aget_l, aset_l, qget_l, qset_l, isA_l, isA_q, alen_l, k2_i, k2_a, k2_n, k2_u, k2_l, ite_si, Option.isSome_some, List.cons_append, List.nil_append, List.length_cons, List.length_nil, Nat.reduceAdd, Nat.zero_add, Nat.reduceLT, Nat.reduceEqDiff, decide_true, decide_false, Bool.and_self, Bool.and_true, Bool.true_and, ↓reduceIte, List.set_cons_zero, List.set_cons_succ, Nat.reduceSub, Nat.add_left_cancel_iff, Nat.add_eq_left, Nat.left_eq_add, not_true_eq_false, not_false_eq_true, reduceCtorEq, i10, i01, ib10, ib01, beq_self_eq_true, eq_self, Int32.reduceLT, Int32.reduceToNatClampNeg, Int32.reduceAdd, Int32.reduceSub, Int32.reduceMul, Bool.or_true, Bool.true_or, Bool.or_false, Bool.false_or, Nat.reduceBEq, Nat.reduceMul]
  rfl
theorem mm_ifLaid1 {t : Int32} (hl : ¬ 0 < σ.1 3 ∨ bw t 0 (σ.1 3) = 0) : mDo 135 b [.int t] σ (-1) σ := by
  refine mDo.same fun h hM => ?_
  obtain ⟨v1, v2, v3, v4, v5, v6, v7, v8, v9, v10, v11, v12, v13, h1⟩ := hM.obj; have h2 := hM.rw
  by_cases hp : 0 < σ.1 3
  · have hq := hl.resolve_left (fun q => q hp)
    simp only [c135, q135_0, q135_1, q135_4, q135_5, q135_6, q135_9, q135_10, q135_11, q135_12, q135_15, q135_16, q135_17, q135_20, q135_23, q135_24, q135_25, q135_28, q135_31, q135_32, rv_v, rv_n, rh_v, mu_at, isF_r, isK_r, fld_r, fset_r, gd0, gd1, gd2, gd3, gd4, gd5, gd6, gd7, gd8, gd9, gd10, gd11, gd12, gd13, inA_l, inW_l, inZ_l, inQ_l, aget_l, aset_l, qget_l, qset_l, isA_l, isA_q, alen_l, k2_i, k2_a, k2_n, k2_u, k2_l, ite_si, Option.isSome_some, List.cons_append, List.nil_append, List.length_cons, List.length_nil, Nat.reduceAdd, Nat.zero_add, Nat.reduceLT, Nat.reduceEqDiff, decide_true, decide_false, Bool.and_self, Bool.and_true, Bool.true_and, ↓reduceIte, List.set_cons_zero, List.set_cons_succ, Nat.reduceSub, Nat.add_left_cancel_iff, Nat.add_eq_left, Nat.left_eq_add, not_true_eq_false, not_false_eq_true, reduceCtorEq, i10, i01, ib10, ib01, beq_self_eq_true, eq_self, Int32.reduceLT, Int32.reduceToNatClampNeg, Int32.reduceAdd, Int32.reduceSub, Int32.reduceMul, Bool.or_true, Bool.true_or, Bool.or_false, Bool.false_or, Nat.reduceBEq, Nat.reduceMul, h1, h2, m_in, if_pos hp, if_pos hq]
  · simp only [c135, q135_0, q135_1, q135_4, q135_5, q135_6, q135_9, q135_10, q135_11, q135_12, q135_15, q135_16, q135_17, q135_20, q135_23, q135_24, q135_25, q135_28, q135_31, q135_32, rv_v, rv_n, rh_v, mu_at, isF_r, isK_r, fld_r, fset_r, gd0, gd1, gd2, gd3, gd4, gd5, gd6, gd7, gd8, gd9, gd10, gd11, gd12, gd13, inA_l, inW_l, inZ_l, inQ_l, aget_l, aset_l, qget_l, qset_l, isA_l, isA_q, alen_l, k2_i, k2_a, k2_n, k2_u, k2_l, ite_si, Option.isSome_some, List.cons_append, List.nil_append, List.length_cons, List.length_nil, Nat.reduceAdd, Nat.zero_add, Nat.reduceLT, Nat.reduceEqDiff, decide_true, decide_false, Bool.and_self, Bool.and_true, Bool.true_and, ↓reduceIte, List.set_cons_zero, List.set_cons_succ, Nat.reduceSub, Nat.add_left_cancel_iff, Nat.add_eq_left, Nat.left_eq_add, not_true_eq_false, not_false_eq_true, reduceCtorEq, i10, i01, ib10, ib01, beq_self_eq_true, eq_self, Int32.reduceLT, Int32.reduceToNatClampNeg, Int32.reduceAdd, Int32.reduceSub, Int32.reduceMul, Bool.or_true, Bool.true_or, Bool.or_false, Bool.false_or, Nat.reduceBEq, Nat.reduceMul, h1, h2, if_neg hp]
theorem mm_ifLaid2 {S t : Nat} (hS : S ≤ 20) (hS0 : 0 < S) (ht : t ≤ S) (h3 : σ.1 3 = nI S) (h0 : 0 < σ.1 0) : mDo 135 b [.int (nI t)] σ (tv σ.1 S t) σ := by
  intro h hM
  obtain ⟨m', e, hM', hB⟩ := mm_trims hS ht h3 h0 h hM
  obtain ⟨v1, v2, v3, v4, v5, v6, v7, v8, v9, v10, v11, v12, v13, h1⟩ := hM.obj; have h2 := hM.rw
  have hp : 0 < σ.1 3 := by rw [h3]; exact nI_0lt hS0 (by omega)
  have hq : ¬ bw (nI t) 0 (σ.1 3) = 0 := by
    rw [h3, show (0 : Int32) = nI 0 from rfl, bwY (by omega) ht (by omega)]
    decide
  refine ⟨m', ?_, hM', hB⟩
  simp only [c135, q135_0, q135_1, q135_4, q135_5, q135_6, q135_9, q135_10, q135_11, q135_12, q135_15, q135_16, q135_17, q135_20, q135_23, q135_24, q135_25, q135_28, q135_31, q135_32, rv_v, rv_n, rh_v, mu_at, isF_r, isK_r, fld_r, fset_r, gd0, gd1, gd2, gd3, gd4, gd5, gd6, gd7, gd8, gd9, gd10, gd11, gd12, gd13, inA_l, inW_l, inZ_l, inQ_l, aget_l, aset_l, qget_l, qset_l, isA_l, isA_q, alen_l, k2_i, k2_a, k2_n, k2_u, k2_l, ite_si, Option.isSome_some, List.cons_append, List.nil_append, List.length_cons, List.length_nil, Nat.reduceAdd, Nat.zero_add, Nat.reduceLT, Nat.reduceEqDiff, decide_true, decide_false, Bool.and_self, Bool.and_true, Bool.true_and, ↓reduceIte, List.set_cons_zero, List.set_cons_succ, Nat.reduceSub, Nat.add_left_cancel_iff, Nat.add_eq_left, Nat.left_eq_add, not_true_eq_false, not_false_eq_true, reduceCtorEq, i10, i01, ib10, ib01, beq_self_eq_true, eq_self, Int32.reduceLT, Int32.reduceToNatClampNeg, Int32.reduceAdd, Int32.reduceSub, Int32.reduceMul, Bool.or_true, Bool.true_or, Bool.or_false, Bool.false_or, Nat.reduceBEq, Nat.reduceMul, h1, h2, m_in, if_pos hp, if_neg hq, e]
/-- the least of n values, from the k-th on -/
def lt (f : Nat → Int32) (best least : Int32) (k : Nat) : Nat → Int32
  | 0 => best
  | n + 1 => if f k = -6 then lt f best least (k + 1) n else if best = -6 then lt f (nI k) (f k) (k + 1) n else if f k < least then lt f (nI k) (f k) (k + 1) n else lt f best least (k + 1) n
theorem m_ltLoop {S : Nat} (hS : S ≤ 20) (hS0 : 0 < S) (h3 : σ.1 3 = nI S) (h0 : 0 < σ.1 0) : ∀ (n k : Nat) (best least : Int32) (v4 v5 : Value) (h : xH), k + n = S + 1 → MM h.2 b σ → ∃ m', rn 136 8 [.ref b, .int best, .int least, .int (nI k), v4, v5] [] h = some (some (.int (lt (tv σ.1 S) best least k n)), (h.1, m')) ∧ MM m' b σ ∧ fB b h.2 m' := by
  have hp : 0 < σ.1 3 := by rw [h3]; exact nI_0lt hS0 (by omega)
  rw [h3] at hp
  intro n
  induction n with
  | zero =>
    intro k best least v4 v5 h hk hM
    obtain ⟨v1, v2, v3, v4, v5, v6, v7, v8, v9, v10, v11, v12, v13, h1⟩ := hM.obj; have h2 := hM.rw
    have c1 : nI S < nI k := nI_lt (by omega) (by omega)
    refine ⟨h.2, ?_, hM, fB.rf⟩
    rw [q136_8]
    simp only [q136_0, q136_2, q136_3, q136_5, q136_6, q136_7, q136_9, q136_10, q136_13, q136_14, q136_15, q136_18, q136_19, q136_22, q136_23, q136_24, q136_27, q136_28, q136_29, q136_32, q136_34, q136_36, q136_38, q136_41, q136_42, q136_44, q136_47, q136_49, q136_50, q136_53, q136_54, q136_57, q136_58, q136_60, q136_62, q136_65, q136_66, q136_69, q136_70, q136_71, q136_73, q136_76, q136_78, q136_81, q136_82, q136_83, q136_86, q136_89, q136_90, rv_v, rv_n, rh_v, mu_at, isF_r, isK_r, fld_r, fset_r, gd0, gd1, gd2, gd3, gd4, gd5, gd6, gd7, gd8, gd9, gd10, gd11, gd12, gd13, inA_l, inW_l, inZ_l, inQ_l, aget_l, aset_l, qget_l, qset_l, isA_l, isA_q, alen_l, k2_i, k2_a, k2_n, k2_u, k2_l, ite_si, Option.isSome_some, List.cons_append, List.nil_append, List.length_cons, List.length_nil, Nat.reduceAdd, Nat.zero_add, Nat.reduceLT, Nat.reduceEqDiff, decide_true, decide_false, Bool.and_self, Bool.and_true, Bool.true_and, ↓reduceIte, List.set_cons_zero, List.set_cons_succ, Nat.reduceSub, Nat.add_left_cancel_iff, Nat.add_eq_left, Nat.left_eq_add, not_true_eq_false, not_false_eq_true, reduceCtorEq, i10, i01, ib10, ib01, beq_self_eq_true, eq_self, Int32.reduceLT, Int32.reduceToNatClampNeg, Int32.reduceAdd, Int32.reduceSub, Int32.reduceMul, Bool.or_true, Bool.true_or, Bool.or_false, Bool.false_or, Nat.reduceBEq, Nat.reduceMul, h1, h2, h3, c1, lt]
  | succ n ih =>
    intro k best least v4 v5 h hk hM
    obtain ⟨m', e, hM', hB⟩ := mm_trims (t := k) hS (by omega) h3 h0 h hM
    obtain ⟨v1, v2, v3, v4, v5, v6, v7, v8, v9, v10, v11, v12, v13, h1⟩ := hM.obj; have h2 := hM.rw
    have c1 : ¬ nI S < nI k := nI_nlt (by omega) (by omega)
    unfold lt
    rw [q136_8]
    by_cases ca : tv σ.1 S k = -6
    · obtain ⟨m2, e2, hM2, hB2⟩ := ih (k + 1) best least (.int (tv σ.1 S k)) (.int 0) (h.1, m') (by omega) hM'
      refine ⟨m2, ?_, hM2, hB.tr hB2⟩
      rw [if_pos ca, ← e2]
      simp only [q136_0, q136_2, q136_3, q136_5, q136_6, q136_7, q136_9, q136_10, q136_13, q136_14, q136_15, q136_18, q136_19, q136_22, q136_23, q136_24, q136_27, q136_28, q136_29, q136_32, q136_34, q136_36, q136_38, q136_41, q136_42, q136_44, q136_47, q136_49, q136_50, q136_53, q136_54, q136_57, q136_58, q136_60, q136_62, q136_65, q136_66, q136_69, q136_70, q136_71, q136_73, q136_76, q136_78, q136_81, q136_82, q136_83, q136_86, q136_89, q136_90, rv_v, rv_n, rh_v, mu_at, isF_r, isK_r, fld_r, fset_r, gd0, gd1, gd2, gd3, gd4, gd5, gd6, gd7, gd8, gd9, gd10, gd11, gd12, gd13, inA_l, inW_l, inZ_l, inQ_l, aget_l, aset_l, qget_l, qset_l, isA_l, isA_q, alen_l, k2_i, k2_a, k2_n, k2_u, k2_l, ite_si, Option.isSome_some, List.cons_append, List.nil_append, List.length_cons, List.length_nil, Nat.reduceAdd, Nat.zero_add, Nat.reduceLT, Nat.reduceEqDiff, decide_true, decide_false, Bool.and_self, Bool.and_true, Bool.true_and, ↓reduceIte, List.set_cons_zero, List.set_cons_succ, Nat.reduceSub, Nat.add_left_cancel_iff, Nat.add_eq_left, Nat.left_eq_add, not_true_eq_false, not_false_eq_true, reduceCtorEq, i10, i01, ib10, ib01, beq_self_eq_true, eq_self, Int32.reduceLT, Int32.reduceToNatClampNeg, Int32.reduceAdd, Int32.reduceSub, Int32.reduceMul, Bool.or_true, Bool.true_or, Bool.or_false, Bool.false_or, Nat.reduceBEq, Nat.reduceMul, h1, h2, h3, c1, if_pos hp, e, if_pos ca, nI_1]
    · rw [if_neg ca]
      by_cases cb : best = -6
      · obtain ⟨m2, e2, hM2, hB2⟩ := ih (k + 1) (nI k) (tv σ.1 S k) (.int (tv σ.1 S k)) (.int 1) (h.1, m') (by omega) hM'
        refine ⟨m2, ?_, hM2, hB.tr hB2⟩
        rw [if_pos cb, ← e2]
        simp only [q136_0, q136_2, q136_3, q136_5, q136_6, q136_7, q136_9, q136_10, q136_13, q136_14, q136_15, q136_18, q136_19, q136_22, q136_23, q136_24, q136_27, q136_28, q136_29, q136_32, q136_34, q136_36, q136_38, q136_41, q136_42, q136_44, q136_47, q136_49, q136_50, q136_53, q136_54, q136_57, q136_58, q136_60, q136_62, q136_65, q136_66, q136_69, q136_70, q136_71, q136_73, q136_76, q136_78, q136_81, q136_82, q136_83, q136_86, q136_89, q136_90, rv_v, rv_n, rh_v, mu_at, isF_r, isK_r, fld_r, fset_r, gd0, gd1, gd2, gd3, gd4, gd5, gd6, gd7, gd8, gd9, gd10, gd11, gd12, gd13, inA_l, inW_l, inZ_l, inQ_l, aget_l, aset_l, qget_l, qset_l, isA_l, isA_q, alen_l, k2_i, k2_a, k2_n, k2_u, k2_l, ite_si, Option.isSome_some, List.cons_append, List.nil_append, List.length_cons, List.length_nil, Nat.reduceAdd, Nat.zero_add, Nat.reduceLT, Nat.reduceEqDiff, decide_true, decide_false, Bool.and_self, Bool.and_true, Bool.true_and, ↓reduceIte, List.set_cons_zero, List.set_cons_succ, Nat.reduceSub, Nat.add_left_cancel_iff, Nat.add_eq_left, Nat.left_eq_add, not_true_eq_false, not_false_eq_true, reduceCtorEq, i10, i01, ib10, ib01, beq_self_eq_true, eq_self, Int32.reduceLT, Int32.reduceToNatClampNeg, Int32.reduceAdd, Int32.reduceSub, Int32.reduceMul, Bool.or_true, Bool.true_or, Bool.or_false, Bool.false_or, Nat.reduceBEq, Nat.reduceMul, h1, h2, h3, c1, if_pos hp, e, if_neg ca, if_pos cb, nI_1]
      · rw [if_neg cb]
        by_cases cc : tv σ.1 S k < least
        · obtain ⟨m2, e2, hM2, hB2⟩ := ih (k + 1) (nI k) (tv σ.1 S k) (.int (tv σ.1 S k)) (.int 1) (h.1, m') (by omega) hM'
          refine ⟨m2, ?_, hM2, hB.tr hB2⟩
          rw [if_pos cc, ← e2]
          simp only [q136_0, q136_2, q136_3, q136_5, q136_6, q136_7, q136_9, q136_10, q136_13, q136_14, q136_15, q136_18, q136_19, q136_22, q136_23, q136_24, q136_27, q136_28, q136_29, q136_32, q136_34, q136_36, q136_38, q136_41, q136_42, q136_44, q136_47, q136_49, q136_50, q136_53, q136_54, q136_57, q136_58, q136_60, q136_62, q136_65, q136_66, q136_69, q136_70, q136_71, q136_73, q136_76, q136_78, q136_81, q136_82, q136_83, q136_86, q136_89, q136_90, rv_v, rv_n, rh_v, mu_at, isF_r, isK_r, fld_r, fset_r, gd0, gd1, gd2, gd3, gd4, gd5, gd6, gd7, gd8, gd9, gd10, gd11, gd12, gd13, inA_l, inW_l, inZ_l, inQ_l, aget_l, aset_l, qget_l, qset_l, isA_l, isA_q, alen_l, k2_i, k2_a, k2_n, k2_u, k2_l, ite_si, Option.isSome_some, List.cons_append, List.nil_append, List.length_cons, List.length_nil, Nat.reduceAdd, Nat.zero_add, Nat.reduceLT, Nat.reduceEqDiff, decide_true, decide_false, Bool.and_self, Bool.and_true, Bool.true_and, ↓reduceIte, List.set_cons_zero, List.set_cons_succ, Nat.reduceSub, Nat.add_left_cancel_iff, Nat.add_eq_left, Nat.left_eq_add, not_true_eq_false, not_false_eq_true, reduceCtorEq, i10, i01, ib10, ib01, beq_self_eq_true, eq_self, Int32.reduceLT, Int32.reduceToNatClampNeg, Int32.reduceAdd, Int32.reduceSub, Int32.reduceMul, Bool.or_true, Bool.true_or, Bool.or_false, Bool.false_or, Nat.reduceBEq, Nat.reduceMul, h1, h2, h3, c1, if_pos hp, e, if_neg ca, if_neg cb, if_pos cc, nI_1]
        · obtain ⟨m2, e2, hM2, hB2⟩ := ih (k + 1) best least (.int (tv σ.1 S k)) (.int 0) (h.1, m') (by omega) hM'
          refine ⟨m2, ?_, hM2, hB.tr hB2⟩
          rw [if_neg cc, ← e2]
          simp only [q136_0, q136_2, q136_3, q136_5, q136_6, q136_7, q136_9, q136_10, q136_13, q136_14, q136_15, q136_18, q136_19, q136_22, q136_23, q136_24, q136_27, q136_28, q136_29, q136_32, q136_34, q136_36, q136_38, q136_41, q136_42, q136_44, q136_47, q136_49, q136_50, q136_53, q136_54, q136_57, q136_58, q136_60, q136_62, q136_65, q136_66, q136_69, q136_70, q136_71, q136_73, q136_76, q136_78, q136_81, q136_82, q136_83, q136_86, q136_89, q136_90, rv_v, rv_n, rh_v, mu_at, isF_r, isK_r, fld_r, fset_r, gd0, gd1, gd2, gd3, gd4, gd5, gd6, gd7, gd8, gd9, gd10, gd11, gd12, gd13, inA_l, inW_l, inZ_l, inQ_l, aget_l, aset_l, qget_l, qset_l, isA_l, isA_q, alen_l, k2_i, k2_a, k2_n, k2_u, k2_l, ite_si, Option.isSome_some, List.cons_append, List.nil_append, List.length_cons, List.length_nil, Nat.reduceAdd, Nat.zero_add, Nat.reduceLT, Nat.reduceEqDiff, decide_true, decide_false, Bool.and_self, Bool.and_true, Bool.true_and, ↓reduceIte, List.set_cons_zero, List.set_cons_succ, Nat.reduceSub, Nat.add_left_cancel_iff, Nat.add_eq_left, Nat.left_eq_add, not_true_eq_false, not_false_eq_true, reduceCtorEq, i10, i01, ib10, ib01, beq_self_eq_true, eq_self, Int32.reduceLT, Int32.reduceToNatClampNeg, Int32.reduceAdd, Int32.reduceSub, Int32.reduceMul, Bool.or_true, Bool.true_or, Bool.or_false, Bool.false_or, Nat.reduceBEq, Nat.reduceMul, h1, h2, h3, c1, if_pos hp, e, if_neg ca, if_neg cb, if_neg cc, nI_1]
theorem mm_least0 (h3 : σ.1 3 = 0) : mDo 136 b [] σ (-6) σ := by
  refine mDo.same fun h hM => ?_
  obtain ⟨v1, v2, v3, v4, v5, v6, v7, v8, v9, v10, v11, v12, v13, h1⟩ := hM.obj; have h2 := hM.rw
  simp only [c136, q136_0, q136_2, q136_3, q136_5, q136_6, q136_7, q136_8, q136_9, q136_10, q136_13, q136_14, q136_15, q136_18, q136_19, q136_22, q136_23, q136_24, q136_27, q136_28, q136_29, q136_32, q136_34, q136_36, q136_38, q136_41, q136_42, q136_44, q136_47, q136_49, q136_50, q136_53, q136_54, q136_57, q136_58, q136_60, q136_62, q136_65, q136_66, q136_69, q136_70, q136_71, q136_73, q136_76, q136_78, q136_81, q136_82, q136_83, q136_86, q136_89, q136_90, rv_v, rv_n, rh_v, mu_at, isF_r, isK_r, fld_r, fset_r, gd0, gd1, gd2, gd3, gd4, gd5, gd6, gd7, gd8, gd9, gd10, gd11, gd12, gd13, inA_l, inW_l, inZ_l, inQ_l, aget_l, aset_l, qget_l, qset_l, isA_l, isA_q, alen_l, k2_i, k2_a, k2_n, k2_u, k2_l, ite_si, Option.isSome_some, List.cons_append, List.nil_append, List.length_cons, List.length_nil, Nat.reduceAdd, Nat.zero_add, Nat.reduceLT, Nat.reduceEqDiff, decide_true, decide_false, Bool.and_self, Bool.and_true, Bool.true_and, ↓reduceIte, List.set_cons_zero, List.set_cons_succ, Nat.reduceSub, Nat.add_left_cancel_iff, Nat.add_eq_left, Nat.left_eq_add, not_true_eq_false, not_false_eq_true, reduceCtorEq, i10, i01, ib10, ib01, beq_self_eq_true, eq_self, Int32.reduceLT, Int32.reduceToNatClampNeg, Int32.reduceAdd, Int32.reduceSub, Int32.reduceMul, Bool.or_true, Bool.true_or, Bool.or_false, Bool.false_or, Nat.reduceBEq, Nat.reduceMul, h1, h2, h3]
theorem mm_least1 {S : Nat} (hS : S ≤ 20) (hS0 : 0 < S) (h3 : σ.1 3 = nI S) (h0 : 0 < σ.1 0) : mDo 136 b [] σ (lt (tv σ.1 S) (-6) (-6) 0 (S + 1)) σ := by
  intro h hM
  obtain ⟨m', e, hM', hB⟩ := m_ltLoop hS hS0 h3 h0 (S + 1) 0 (-6) (-6) unk unk h (by omega) hM
  refine ⟨m', ?_, hM', hB⟩
  rw [← e]
  simp only [c136, q136_0, q136_2, q136_3, q136_5, q136_6, q136_7, q136_9, q136_10, q136_13, q136_14, q136_15, q136_18, q136_19, q136_22, q136_23, q136_24, q136_27, q136_28, q136_29, q136_32, q136_34, q136_36, q136_38, q136_41, q136_42, q136_44, q136_47, q136_49, q136_50, q136_53, q136_54, q136_57, q136_58, q136_60, q136_62, q136_65, q136_66, q136_69, q136_70, q136_71, q136_73, q136_76, q136_78, q136_81, q136_82, q136_83, q136_86, q136_89, q136_90, rv_v, rv_n, rh_v, mu_at, isF_r, isK_r, fld_r, fset_r, gd0, gd1, gd2, gd3, gd4, gd5, gd6, gd7, gd8, gd9, gd10, gd11, gd12, gd13, inA_l, inW_l, inZ_l, inQ_l, aget_l, aset_l, qget_l, qset_l, isA_l, isA_q, alen_l, k2_i, k2_a, k2_n, k2_u, k2_l, ite_si, Option.isSome_some, List.cons_append, List.nil_append, List.length_cons, List.length_nil, Nat.reduceAdd, Nat.zero_add, Nat.reduceLT, Nat.reduceEqDiff, decide_true, decide_false, Bool.and_self, Bool.and_true, Bool.true_and, ↓reduceIte, List.set_cons_zero, List.set_cons_succ, Nat.reduceSub, Nat.add_left_cancel_iff, Nat.add_eq_left, Nat.left_eq_add, not_true_eq_false, not_false_eq_true, reduceCtorEq, i10, i01, ib10, ib01, beq_self_eq_true, eq_self, Int32.reduceLT, Int32.reduceToNatClampNeg, Int32.reduceAdd, Int32.reduceSub, Int32.reduceMul, Bool.or_true, Bool.true_or, Bool.or_false, Bool.false_or, Nat.reduceBEq, Nat.reduceMul]
  rfl
end
