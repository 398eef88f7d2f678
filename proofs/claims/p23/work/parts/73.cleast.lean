theorem lt_any (f : Nat → Int32) (x y : Int32) : ∀ (n k : Nat), lt f (-6) x k n = lt f (-6) y k n
  | 0, _ => rfl
  | n + 1, k => by
    unfold lt
    rw [if_pos rfl, if_pos rfl, lt_any f x y n (k + 1)]
theorem fC.tr {a : Nat} {m m' m'' : xM} (h1 : fC a m m') (h2 : fC a m' m'') : fC a m m'' := fun q hq => (h2 q hq).trans (h1 q hq)
section
variable {a S k0 : Nat} {σ : AS}
theorem c_ltLoop (hS : S ≤ 20) (h3 : σ.1 3 = nI S) (hI : RI k0 σ.1) : ∀ (n k : Nat) (best least : Int32) (v4 : Value) (h : xH), k + n = S + 1 → CC h.2 a σ → ∃ m', rn 65 23 [.ref a, .int best, .int least, .int (nI k), v4] [] h = some (some (.int (lt (tv σ.1 S) best least k n)), (h.1, m')) ∧ CC m' a σ ∧ fC a h.2 m' := by
  intro n
  induction n with
  | zero =>
    intro k best least v4 h hk hC
    have hC0 := hC
    obtain ⟨k1, k2, k3, k4, k5, k6, k7, k8⟩ := hC; unfold CO at k1; obtain ⟨S', q, ri, tr, ft, hA, hR⟩ := k2; have hH := hA.1; have hs := hA.2.1.1; rw [hR.i3, ← hR.2.1, h3] at hs
    have c1 : nI S < nI k := nI_lt (by omega) (by omega)
    refine ⟨h.2, ?_, hC0, fun _ _ => rfl⟩
    rw [q65_23]
    simp only [q65_0, q65_1, q65_4, q65_7, q65_10, q65_13, q65_15, q65_16, q65_18, q65_19, q65_20, q65_21, q65_22, q65_24, q65_25, q65_28, q65_31, q65_34, q65_37, q65_38, q65_39, q65_42, q65_44, q65_46, q65_48, q65_51, q65_52, q65_54, q65_57, q65_59, q65_60, q65_63, q65_64, q65_65, q65_67, q65_68, q65_71, q65_74, q65_75, rv_v, rv_n, rh_v, mu_at, isF_r, isK_r, fld_r, fset_r, gd0, gd1, gd2, gd3, gd4, gd5, gd6, gd7, gd8, gd9, gd10, gd11, gd12, gd13, inA_l, inW_l, inZ_l, inQ_l, aget_l, aset_l, qget_l, qset_l, isA_l, isA_q, alen_l, k2_i, k2_a, k2_n, k2_u, k2_l, ite_si, Option.isSome_some, List.cons_append, List.nil_append, List.length_cons, List.length_nil, Nat.reduceAdd, Nat.zero_add, Nat.reduceLT, Nat.reduceEqDiff, decide_true, decide_false, Bool.and_self, Bool.and_true, Bool.true_and, ↓reduceIte, List.set_cons_zero, List.set_cons_succ, Nat.reduceSub, Nat.add_left_cancel_iff, Nat.add_eq_left, Nat.left_eq_add, not_true_eq_false, not_false_eq_true, reduceCtorEq, i10, i01, ib10, ib01, beq_self_eq_true, eq_self, Int32.reduceLT, Int32.reduceToNatClampNeg, Int32.reduceAdd, Int32.reduceSub, Int32.reduceMul, Bool.or_true, Bool.true_or, Bool.or_false, Bool.false_or, Nat.reduceBEq, Nat.reduceMul, k1, hH, hs, c1, lt]
  | succ n ih =>
    intro k best least v4 h hk hC
    obtain ⟨m', e, hM', hB⟩ := c_trims (t := k) hS (by omega) h3 hI h hC
    obtain ⟨k1, k2, k3, k4, k5, k6, k7, k8⟩ := hC; unfold CO at k1; obtain ⟨S', q, ri, tr, ft, hA, hR⟩ := k2; have hH := hA.1; have hs := hA.2.1.1; rw [hR.i3, ← hR.2.1, h3] at hs
    have c1 : ¬ nI S < nI k := nI_nlt (by omega) (by omega)
    unfold lt
    rw [q65_23]
    by_cases ca : tv σ.1 S k = -6
    · obtain ⟨m2, e2, hM2, hB2⟩ := ih (k + 1) best least (.int (tv σ.1 S k)) (h.1, m') (by omega) hM'
      refine ⟨m2, ?_, hM2, hB.tr hB2⟩
      rw [if_pos ca, ← e2]
      simp only [q65_0, q65_1, q65_4, q65_7, q65_10, q65_13, q65_15, q65_16, q65_18, q65_19, q65_20, q65_21, q65_22, q65_24, q65_25, q65_28, q65_31, q65_34, q65_37, q65_38, q65_39, q65_42, q65_44, q65_46, q65_48, q65_51, q65_52, q65_54, q65_57, q65_59, q65_60, q65_63, q65_64, q65_65, q65_67, q65_68, q65_71, q65_74, q65_75, rv_v, rv_n, rh_v, mu_at, isF_r, isK_r, fld_r, fset_r, gd0, gd1, gd2, gd3, gd4, gd5, gd6, gd7, gd8, gd9, gd10, gd11, gd12, gd13, inA_l, inW_l, inZ_l, inQ_l, aget_l, aset_l, qget_l, qset_l, isA_l, isA_q, alen_l, k2_i, k2_a, k2_n, k2_u, k2_l, ite_si, Option.isSome_some, List.cons_append, List.nil_append, List.length_cons, List.length_nil, Nat.reduceAdd, Nat.zero_add, Nat.reduceLT, Nat.reduceEqDiff, decide_true, decide_false, Bool.and_self, Bool.and_true, Bool.true_and, ↓reduceIte, List.set_cons_zero, List.set_cons_succ, Nat.reduceSub, Nat.add_left_cancel_iff, Nat.add_eq_left, Nat.left_eq_add, not_true_eq_false, not_false_eq_true, reduceCtorEq, i10, i01, ib10, ib01, beq_self_eq_true, eq_self, Int32.reduceLT, Int32.reduceToNatClampNeg, Int32.reduceAdd, Int32.reduceSub, Int32.reduceMul, Bool.or_true, Bool.true_or, Bool.or_false, Bool.false_or, Nat.reduceBEq, Nat.reduceMul, k1, hH, hs, c1, e, if_pos ca, nI_1]
    · rw [if_neg ca]
      by_cases cb : best = -6
      · obtain ⟨m2, e2, hM2, hB2⟩ := ih (k + 1) (nI k) (tv σ.1 S k) (.int (tv σ.1 S k)) (h.1, m') (by omega) hM'
        refine ⟨m2, ?_, hM2, hB.tr hB2⟩
        rw [if_pos cb, ← e2]
        simp only [q65_0, q65_1, q65_4, q65_7, q65_10, q65_13, q65_15, q65_16, q65_18, q65_19, q65_20, q65_21, q65_22, q65_24, q65_25, q65_28, q65_31, q65_34, q65_37, q65_38, q65_39, q65_42, q65_44, q65_46, q65_48, q65_51, q65_52, q65_54, q65_57, q65_59, q65_60, q65_63, q65_64, q65_65, q65_67, q65_68, q65_71, q65_74, q65_75, rv_v, rv_n, rh_v, mu_at, isF_r, isK_r, fld_r, fset_r, gd0, gd1, gd2, gd3, gd4, gd5, gd6, gd7, gd8, gd9, gd10, gd11, gd12, gd13, inA_l, inW_l, inZ_l, inQ_l, aget_l, aset_l, qget_l, qset_l, isA_l, isA_q, alen_l, k2_i, k2_a, k2_n, k2_u, k2_l, ite_si, Option.isSome_some, List.cons_append, List.nil_append, List.length_cons, List.length_nil, Nat.reduceAdd, Nat.zero_add, Nat.reduceLT, Nat.reduceEqDiff, decide_true, decide_false, Bool.and_self, Bool.and_true, Bool.true_and, ↓reduceIte, List.set_cons_zero, List.set_cons_succ, Nat.reduceSub, Nat.add_left_cancel_iff, Nat.add_eq_left, Nat.left_eq_add, not_true_eq_false, not_false_eq_true, reduceCtorEq, i10, i01, ib10, ib01, beq_self_eq_true, eq_self, Int32.reduceLT, Int32.reduceToNatClampNeg, Int32.reduceAdd, Int32.reduceSub, Int32.reduceMul, Bool.or_true, Bool.true_or, Bool.or_false, Bool.false_or, Nat.reduceBEq, Nat.reduceMul, k1, hH, hs, c1, e, if_neg ca, if_pos cb, nI_1]
      · rw [if_neg cb]
        by_cases cc : tv σ.1 S k < least
        · obtain ⟨m2, e2, hM2, hB2⟩ := ih (k + 1) (nI k) (tv σ.1 S k) (.int (tv σ.1 S k)) (h.1, m') (by omega) hM'
          refine ⟨m2, ?_, hM2, hB.tr hB2⟩
          rw [if_pos cc, ← e2]
          simp only [q65_0, q65_1, q65_4, q65_7, q65_10, q65_13, q65_15, q65_16, q65_18, q65_19, q65_20, q65_21, q65_22, q65_24, q65_25, q65_28, q65_31, q65_34, q65_37, q65_38, q65_39, q65_42, q65_44, q65_46, q65_48, q65_51, q65_52, q65_54, q65_57, q65_59, q65_60, q65_63, q65_64, q65_65, q65_67, q65_68, q65_71, q65_74, q65_75, rv_v, rv_n, rh_v, mu_at, isF_r, isK_r, fld_r, fset_r, gd0, gd1, gd2, gd3, gd4, gd5, gd6, gd7, gd8, gd9, gd10, gd11, gd12, gd13, inA_l, inW_l, inZ_l, inQ_l, aget_l, aset_l, qget_l, qset_l, isA_l, isA_q, alen_l, k2_i, k2_a, k2_n, k2_u, k2_l, ite_si, Option.isSome_some, List.cons_append, List.nil_append, List.length_cons, List.length_nil, Nat.reduceAdd, Nat.zero_add, Nat.reduceLT, Nat.reduceEqDiff, decide_true, decide_false, Bool.and_self, Bool.and_true, Bool.true_and, ↓reduceIte, List.set_cons_zero, List.set_cons_succ, Nat.reduceSub, Nat.add_left_cancel_iff, Nat.add_eq_left, Nat.left_eq_add, not_true_eq_false, not_false_eq_true, reduceCtorEq, i10, i01, ib10, ib01, beq_self_eq_true, eq_self, Int32.reduceLT, Int32.reduceToNatClampNeg, Int32.reduceAdd, Int32.reduceSub, Int32.reduceMul, Bool.or_true, Bool.true_or, Bool.or_false, Bool.false_or, Nat.reduceBEq, Nat.reduceMul, k1, hH, hs, c1, e, if_neg ca, if_neg cb, if_pos cc, nI_1]
        · obtain ⟨m2, e2, hM2, hB2⟩ := ih (k + 1) best least (.int (tv σ.1 S k)) (h.1, m') (by omega) hM'
          refine ⟨m2, ?_, hM2, hB.tr hB2⟩
          rw [if_neg cc, ← e2]
          simp only [q65_0, q65_1, q65_4, q65_7, q65_10, q65_13, q65_15, q65_16, q65_18, q65_19, q65_20, q65_21, q65_22, q65_24, q65_25, q65_28, q65_31, q65_34, q65_37, q65_38, q65_39, q65_42, q65_44, q65_46, q65_48, q65_51, q65_52, q65_54, q65_57, q65_59, q65_60, q65_63, q65_64, q65_65, q65_67, q65_68, q65_71, q65_74, q65_75, rv_v, rv_n, rh_v, mu_at, isF_r, isK_r, fld_r, fset_r, gd0, gd1, gd2, gd3, gd4, gd5, gd6, gd7, gd8, gd9, gd10, gd11, gd12, gd13, inA_l, inW_l, inZ_l, inQ_l, aget_l, aset_l, qget_l, qset_l, isA_l, isA_q, alen_l, k2_i, k2_a, k2_n, k2_u, k2_l, ite_si, Option.isSome_some, List.cons_append, List.nil_append, List.length_cons, List.length_nil, Nat.reduceAdd, Nat.zero_add, Nat.reduceLT, Nat.reduceEqDiff, decide_true, decide_false, Bool.and_self, Bool.and_true, Bool.true_and, ↓reduceIte, List.set_cons_zero, List.set_cons_succ, Nat.reduceSub, Nat.add_left_cancel_iff, Nat.add_eq_left, Nat.left_eq_add, not_true_eq_false, not_false_eq_true, reduceCtorEq, i10, i01, ib10, ib01, beq_self_eq_true, eq_self, Int32.reduceLT, Int32.reduceToNatClampNeg, Int32.reduceAdd, Int32.reduceSub, Int32.reduceMul, Bool.or_true, Bool.true_or, Bool.or_false, Bool.false_or, Nat.reduceBEq, Nat.reduceMul, k1, hH, hs, c1, e, if_neg ca, if_neg cb, if_neg cc, nI_1]
theorem c_least0 (h3 : σ.1 3 = 0) : cEq 65 a [] σ (-6) σ := by
  refine cEq.same fun h hC => ?_
  obtain ⟨k1, k2, k3, k4, k5, k6, k7, k8⟩ := hC; unfold CO at k1; obtain ⟨S', q, ri, tr, ft, hA, hR⟩ := k2; have hH := hA.1; have hs := hA.2.1.1; rw [hR.i3, ← hR.2.1, h3] at hs
  simp only [c65, q65_0, q65_1, q65_4, q65_7, q65_10, q65_13, q65_15, q65_16, q65_18, q65_19, q65_20, q65_21, q65_22, q65_23, q65_24, q65_25, q65_28, q65_31, q65_34, q65_37, q65_38, q65_39, q65_42, q65_44, q65_46, q65_48, q65_51, q65_52, q65_54, q65_57, q65_59, q65_60, q65_63, q65_64, q65_65, q65_67, q65_68, q65_71, q65_74, q65_75, rv_v, rv_n, rh_v, mu_at, isF_r, isK_r, fld_r, fset_r, gd0, gd1, gd2, gd3, gd4, gd5, gd6, gd7, gd8, gd9, gd10, gd11, gd12, gd13, inA_l, inW_l, inZ_l, inQ_l, aget_l, aset_l, qget_l, qset_l, isA_l, isA_q, alen_l, k2_i, k2_a, k2_n, k2_u, k2_l, ite_si, Option.isSome_some, List.cons_append, List.nil_append, List.length_cons, List.length_nil, Nat.reduceAdd, Nat.zero_add, Nat.reduceLT, Nat.reduceEqDiff, decide_true, decide_false, Bool.and_self, Bool.and_true, Bool.true_and, ↓reduceIte, List.set_cons_zero, List.set_cons_succ, Nat.reduceSub, Nat.add_left_cancel_iff, Nat.add_eq_left, Nat.left_eq_add, not_true_eq_false, not_false_eq_true, reduceCtorEq, i10, i01, ib10, ib01, beq_self_eq_true, eq_self, Int32.reduceLT, Int32.reduceToNatClampNeg, Int32.reduceAdd, Int32.reduceSub, Int32.reduceMul, Bool.or_true, Bool.true_or, Bool.or_false, Bool.false_or, Nat.reduceBEq, Nat.reduceMul, k1, hH, hs]
theorem c_least1 (hS : S ≤ 20) (hS0 : 0 < S) (h3 : σ.1 3 = nI S) (hI : RI k0 σ.1) : cDo 65 a [] σ (lt (tv σ.1 S) (-6) (-6) 0 (S + 1)) σ := by
  intro h hC
  obtain ⟨m', e, hM', hB⟩ := c_ltLoop hS h3 hI (S + 1) 0 (-6) 0 unk h (by omega) hC
  refine ⟨m', ?_, hM', hB⟩
  obtain ⟨k1, k2, k3, k4, k5, k6, k7, k8⟩ := hC; unfold CO at k1; obtain ⟨S', q, ri, tr, ft, hA, hR⟩ := k2; have hH := hA.1; have hs := hA.2.1.1; rw [hR.i3, ← hR.2.1, h3] at hs
  have hne : ¬ nI S = 0 := nI_ne0 hS0 (by omega)
  rw [lt_any (tv σ.1 S) (-6) 0, ← e]
  simp only [c65, q65_0, q65_1, q65_4, q65_7, q65_10, q65_13, q65_15, q65_16, q65_18, q65_19, q65_20, q65_21, q65_22, q65_24, q65_25, q65_28, q65_31, q65_34, q65_37, q65_38, q65_39, q65_42, q65_44, q65_46, q65_48, q65_51, q65_52, q65_54, q65_57, q65_59, q65_60, q65_63, q65_64, q65_65, q65_67, q65_68, q65_71, q65_74, q65_75, rv_v, rv_n, rh_v, mu_at, isF_r, isK_r, fld_r, fset_r, gd0, gd1, gd2, gd3, gd4, gd5, gd6, gd7, gd8, gd9, gd10, gd11, gd12, gd13, inA_l, inW_l, inZ_l, inQ_l, aget_l, aset_l, qget_l, qset_l, isA_l, isA_q, alen_l, k2_i, k2_a, k2_n, k2_u, k2_l, ite_si, Option.isSome_some, List.cons_append, List.nil_append, List.length_cons, List.length_nil, Nat.reduceAdd, Nat.zero_add, Nat.reduceLT, Nat.reduceEqDiff, decide_true, decide_false, Bool.and_self, Bool.and_true, Bool.true_and, ↓reduceIte, List.set_cons_zero, List.set_cons_succ, Nat.reduceSub, Nat.add_left_cancel_iff, Nat.add_eq_left, Nat.left_eq_add, not_true_eq_false, not_false_eq_true, reduceCtorEq, i10, i01, ib10, ib01, beq_self_eq_true, eq_self, Int32.reduceLT, Int32.reduceToNatClampNeg, Int32.reduceAdd, Int32.reduceSub, Int32.reduceMul, Bool.or_true, Bool.true_or, Bool.or_false, Bool.false_or, Nat.reduceBEq, Nat.reduceMul, k1, hH, hs, if_neg hne]
  rfl
theorem c_ifLaid1 {t : Int32} (hl : ¬ 0 < σ.1 3 ∨ bw t 0 (σ.1 3) = 0) (hI : RI k0 σ.1) : cEq 63 a [.int t] σ (-1) σ := by
  refine cEq.same fun h hC => ?_
  obtain ⟨S, h3, hS⟩ : ∃ S : Nat, σ.1 3 = nI S ∧ S ≤ 20 := by
    obtain ⟨S', u0, u1, p0, p1, R, O, b0, b1, l0, l1, sl, ⟨e1, -⟩, ⟨f1, -⟩, -⟩ := hI
    exact ⟨S', e1, f1⟩
  rw [h3] at hl
  obtain ⟨k1, k2, k3, k4, k5, k6, k7, k8⟩ := hC; unfold CO at k1; obtain ⟨S', q, ri, tr, ft, hA, hR⟩ := k2; have hH := hA.1; have hs := hA.2.1.1; rw [hR.i3, ← hR.2.1, h3] at hs
  by_cases hz : nI S = 0
  · simp only [c63, q63_0, q63_1, q63_4, q63_7, q63_10, q63_13, q63_14, q63_15, q63_16, q63_19, q63_22, q63_25, q63_28, q63_31, q63_32, q63_33, q63_34, q63_35, q63_38, rv_v, rv_n, rh_v, mu_at, isF_r, isK_r, fld_r, fset_r, gd0, gd1, gd2, gd3, gd4, gd5, gd6, gd7, gd8, gd9, gd10, gd11, gd12, gd13, inA_l, inW_l, inZ_l, inQ_l, aget_l, aset_l, qget_l, qset_l, isA_l, isA_q, alen_l, k2_i, k2_a, k2_n, k2_u, k2_l, ite_si, Option.isSome_some, List.cons_append, List.nil_append, List.length_cons, List.length_nil, Nat.reduceAdd, Nat.zero_add, Nat.reduceLT, Nat.reduceEqDiff, decide_true, decide_false, Bool.and_self, Bool.and_true, Bool.true_and, ↓reduceIte, List.set_cons_zero, List.set_cons_succ, Nat.reduceSub, Nat.add_left_cancel_iff, Nat.add_eq_left, Nat.left_eq_add, not_true_eq_false, not_false_eq_true, reduceCtorEq, i10, i01, ib10, ib01, beq_self_eq_true, eq_self, Int32.reduceLT, Int32.reduceToNatClampNeg, Int32.reduceAdd, Int32.reduceSub, Int32.reduceMul, Bool.or_true, Bool.true_or, Bool.or_false, Bool.false_or, Nat.reduceBEq, Nat.reduceMul, k1, hH, hs, if_pos hz]
  · have hp : 0 < nI S := (nI_p (by omega)).mpr hz
    have hb := hl.resolve_left (fun q => q hp)
    simp only [c63, q63_0, q63_1, q63_4, q63_7, q63_10, q63_13, q63_14, q63_15, q63_16, q63_19, q63_22, q63_25, q63_28, q63_31, q63_32, q63_33, q63_34, q63_35, q63_38, rv_v, rv_n, rh_v, mu_at, isF_r, isK_r, fld_r, fset_r, gd0, gd1, gd2, gd3, gd4, gd5, gd6, gd7, gd8, gd9, gd10, gd11, gd12, gd13, inA_l, inW_l, inZ_l, inQ_l, aget_l, aset_l, qget_l, qset_l, isA_l, isA_q, alen_l, k2_i, k2_a, k2_n, k2_u, k2_l, ite_si, Option.isSome_some, List.cons_append, List.nil_append, List.length_cons, List.length_nil, Nat.reduceAdd, Nat.zero_add, Nat.reduceLT, Nat.reduceEqDiff, decide_true, decide_false, Bool.and_self, Bool.and_true, Bool.true_and, ↓reduceIte, List.set_cons_zero, List.set_cons_succ, Nat.reduceSub, Nat.add_left_cancel_iff, Nat.add_eq_left, Nat.left_eq_add, not_true_eq_false, not_false_eq_true, reduceCtorEq, i10, i01, ib10, ib01, beq_self_eq_true, eq_self, Int32.reduceLT, Int32.reduceToNatClampNeg, Int32.reduceAdd, Int32.reduceSub, Int32.reduceMul, Bool.or_true, Bool.true_or, Bool.or_false, Bool.false_or, Nat.reduceBEq, Nat.reduceMul, k1, hH, hs, if_neg hz, p_isWithin, if_pos hb]
theorem c_ifLaid2 {t : Nat} (hS : S ≤ 20) (hS0 : 0 < S) (ht : t ≤ S) (h3 : σ.1 3 = nI S) (hI : RI k0 σ.1) : cDo 63 a [.int (nI t)] σ (tv σ.1 S t) σ := by
  intro h hC
  obtain ⟨m', e, hM', hB⟩ := c_trims (t := t) hS ht h3 hI h hC
  refine ⟨m', ?_, hM', hB⟩
  obtain ⟨k1, k2, k3, k4, k5, k6, k7, k8⟩ := hC; unfold CO at k1; obtain ⟨S', q, ri, tr, ft, hA, hR⟩ := k2; have hH := hA.1; have hs := hA.2.1.1; rw [hR.i3, ← hR.2.1, h3] at hs
  have hz : ¬ nI S = 0 := nI_ne0 hS0 (by omega)
  have hb : ¬ bw (nI t) 0 (nI S) = 0 := by
    rw [show (0 : Int32) = nI 0 from rfl, bwY (by omega) ht (by omega)]
    decide
  simp only [c63, q63_0, q63_1, q63_4, q63_7, q63_10, q63_13, q63_14, q63_15, q63_16, q63_19, q63_22, q63_25, q63_28, q63_31, q63_32, q63_33, q63_34, q63_35, q63_38, rv_v, rv_n, rh_v, mu_at, isF_r, isK_r, fld_r, fset_r, gd0, gd1, gd2, gd3, gd4, gd5, gd6, gd7, gd8, gd9, gd10, gd11, gd12, gd13, inA_l, inW_l, inZ_l, inQ_l, aget_l, aset_l, qget_l, qset_l, isA_l, isA_q, alen_l, k2_i, k2_a, k2_n, k2_u, k2_l, ite_si, Option.isSome_some, List.cons_append, List.nil_append, List.length_cons, List.length_nil, Nat.reduceAdd, Nat.zero_add, Nat.reduceLT, Nat.reduceEqDiff, decide_true, decide_false, Bool.and_self, Bool.and_true, Bool.true_and, ↓reduceIte, List.set_cons_zero, List.set_cons_succ, Nat.reduceSub, Nat.add_left_cancel_iff, Nat.add_eq_left, Nat.left_eq_add, not_true_eq_false, not_false_eq_true, reduceCtorEq, i10, i01, ib10, ib01, beq_self_eq_true, eq_self, Int32.reduceLT, Int32.reduceToNatClampNeg, Int32.reduceAdd, Int32.reduceSub, Int32.reduceMul, Bool.or_true, Bool.true_or, Bool.or_false, Bool.false_or, Nat.reduceBEq, Nat.reduceMul, k1, hH, hs, if_neg hz, p_isWithin, if_neg hb, e]
end
