theorem two_lt {x y : Nat} (hx : x < 2 ^ 20) (hy : y < 2 ^ 20) : (0 < nI x + nI y) ↔ (0 < nI x ∨ 0 < nI y) := by
  have e : nI x + nI y = nI (x + y) := nI_add x y
  rw [e]
  constructor
  · intro h
    by_cases hz : 0 < x
    · exact Or.inl (nI_0lt hz (by omega))
    · by_cases hw : 0 < y
      · exact Or.inr (nI_0lt hw (by omega))
      · obtain rfl : x = 0 := by omega
        obtain rfl : y = 0 := by omega
        exact absurd h (by decide)
  · rintro (h | h)
    · have : x ≠ 0 := fun q => by rw [q] at h; exact absurd h (by decide)
      exact nI_0lt (by omega) (by omega)
    · have : y ≠ 0 := fun q => by rw [q] at h; exact absurd h (by decide)
      exact nI_0lt (by omega) (by omega)
theorem RI.pcs {k : Nat} {r : Row} (h : RI k r) (hk : k < 2 ^ 20) : (0 < r 47 + r 52) ↔ (0 < r 47 ∨ 0 < r 52) := by
  obtain ⟨S, u0, u1, p0, p1, R, O, b0, b1, l0, l1, sl, ⟨e1, e2, e3, e4, e5, -⟩, ⟨f1, f2, f3, f4, -⟩, -⟩ := h
  rw [e4, e5]
  exact two_lt (by omega) (by omega)
section
variable {a k : Nat} {σ : AS}
theorem c_sets0 (v : Int32) : (bw v 2 60 = 0 → cDo 50 a [.int v] σ (-2) σ) ∧ (bw v 20 400 = 0 → cDo 51 a [.int v] σ (-2) σ) ∧ (bw v 0 9 = 0 → cDo 52 a [.int v] σ (-2) σ) := by
  refine ⟨fun hv => cDo.same fun h hC => ?_, fun hv => cDo.same fun h hC => ?_, fun hv => cDo.same fun h hC => ?_⟩
  · simp only [c50, q50_0, q50_1, q50_2, q50_4, q50_7, q50_10, q50_12, q50_13, q50_14, q50_17, q50_20, q50_23, q50_24, q50_27, q50_30, q50_33, q50_34, q50_37, q50_38, q50_41, q50_44, q50_47, q50_48, q50_51, q50_53, q50_54, q50_55, q50_58, q50_59, q50_62, q50_65, q50_66, q50_69, q50_72, q50_73, q50_74, q50_77, q50_78, q50_81, q50_82, rv_v, rv_n, rh_v, mu_at, isF_r, isK_r, fld_r, fset_r, gd0, gd1, gd2, gd3, gd4, gd5, gd6, gd7, gd8, gd9, gd10, gd11, gd12, gd13, inA_l, inW_l, inZ_l, inQ_l, aget_l, aset_l, qget_l, qset_l, isA_l, isA_q, alen_l, k2_i, k2_a, k2_n, k2_u, k2_l, ite_si, Option.isSome_some, List.cons_append, List.nil_append, List.length_cons, List.length_nil, Nat.reduceAdd, Nat.zero_add, Nat.reduceLT, Nat.reduceEqDiff, decide_true, decide_false, Bool.and_self, Bool.and_true, Bool.true_and, ↓reduceIte, List.set_cons_zero, List.set_cons_succ, Nat.reduceSub, Nat.add_left_cancel_iff, Nat.add_eq_left, Nat.left_eq_add, not_true_eq_false, not_false_eq_true, reduceCtorEq, i10, i01, ib10, ib01, beq_self_eq_true, eq_self, Int32.reduceLT, Int32.reduceToNatClampNeg, Int32.reduceAdd, Int32.reduceSub, Int32.reduceMul, Bool.or_true, Bool.true_or, Bool.or_false, Bool.false_or, Nat.reduceBEq, Nat.reduceMul, p_isWithin, if_pos hv]
  · simp only [c51, q51_0, q51_1, q51_3, q51_6, q51_9, q51_12, q51_14, q51_15, q51_16, q51_19, q51_22, q51_25, q51_27, q51_28, q51_29, q51_32, q51_33, q51_36, q51_39, q51_40, q51_43, q51_46, q51_47, q51_48, q51_51, q51_52, q51_55, q51_56, rv_v, rv_n, rh_v, mu_at, isF_r, isK_r, fld_r, fset_r, gd0, gd1, gd2, gd3, gd4, gd5, gd6, gd7, gd8, gd9, gd10, gd11, gd12, gd13, inA_l, inW_l, inZ_l, inQ_l, aget_l, aset_l, qget_l, qset_l, isA_l, isA_q, alen_l, k2_i, k2_a, k2_n, k2_u, k2_l, ite_si, Option.isSome_some, List.cons_append, List.nil_append, List.length_cons, List.length_nil, Nat.reduceAdd, Nat.zero_add, Nat.reduceLT, Nat.reduceEqDiff, decide_true, decide_false, Bool.and_self, Bool.and_true, Bool.true_and, ↓reduceIte, List.set_cons_zero, List.set_cons_succ, Nat.reduceSub, Nat.add_left_cancel_iff, Nat.add_eq_left, Nat.left_eq_add, not_true_eq_false, not_false_eq_true, reduceCtorEq, i10, i01, ib10, ib01, beq_self_eq_true, eq_self, Int32.reduceLT, Int32.reduceToNatClampNeg, Int32.reduceAdd, Int32.reduceSub, Int32.reduceMul, Bool.or_true, Bool.true_or, Bool.or_false, Bool.false_or, Nat.reduceBEq, Nat.reduceMul, p_isWithin, if_pos hv]
  · simp only [c52, q52_0, q52_1, q52_2, q52_4, q52_7, q52_10, q52_12, q52_13, q52_14, q52_17, q52_18, q52_21, q52_24, q52_25, q52_28, q52_31, q52_32, q52_33, q52_36, q52_37, q52_40, q52_41, rv_v, rv_n, rh_v, mu_at, isF_r, isK_r, fld_r, fset_r, gd0, gd1, gd2, gd3, gd4, gd5, gd6, gd7, gd8, gd9, gd10, gd11, gd12, gd13, inA_l, inW_l, inZ_l, inQ_l, aget_l, aset_l, qget_l, qset_l, isA_l, isA_q, alen_l, k2_i, k2_a, k2_n, k2_u, k2_l, ite_si, Option.isSome_some, List.cons_append, List.nil_append, List.length_cons, List.length_nil, Nat.reduceAdd, Nat.zero_add, Nat.reduceLT, Nat.reduceEqDiff, decide_true, decide_false, Bool.and_self, Bool.and_true, Bool.true_and, ↓reduceIte, List.set_cons_zero, List.set_cons_succ, Nat.reduceSub, Nat.add_left_cancel_iff, Nat.add_eq_left, Nat.left_eq_add, not_true_eq_false, not_false_eq_true, reduceCtorEq, i10, i01, ib10, ib01, beq_self_eq_true, eq_self, Int32.reduceLT, Int32.reduceToNatClampNeg, Int32.reduceAdd, Int32.reduceSub, Int32.reduceMul, Bool.or_true, Bool.true_or, Bool.or_false, Bool.false_or, Nat.reduceBEq, Nat.reduceMul, p_isWithin, if_pos hv]
theorem c_roll1 (v : Int32) (hv : ¬ bw v 20 400 = 0) (hp : 0 < σ.1 47 ∨ 0 < σ.1 52) : cDo 51 a [.int v] σ (-5) σ := by
  refine cDo.same fun h hC => ?_
  obtain ⟨k1, k2, k3, k4, k5, k6, k7, k8⟩ := hC; unfold CO at k1; obtain ⟨S, q, ri, tr, ft, hA, hR⟩ := k2; have hH := hA.1; have h5 := hA.2.2.1; have h6 := hA.2.2.2; unfold CA at h5 h6; obtain ⟨kv1, kv2, hK⟩ := k4.kk
  have e1 := p_hasTaken hA
  have e2 : (if 0 < q 7 then (1 : Int32) else if 0 < q 12 then 1 else 0) = 1 := by
    rw [hR.i7, hR.i12]
    by_cases hz : 0 < σ.1 47
    · rw [if_pos hz]
    · rw [if_neg hz, if_pos (hp.resolve_left hz)]
  rw [e2] at e1
  simp only [c51, q51_0, q51_1, q51_3, q51_6, q51_9, q51_12, q51_14, q51_15, q51_16, q51_19, q51_22, q51_25, q51_27, q51_28, q51_29, q51_32, q51_33, q51_36, q51_39, q51_40, q51_43, q51_46, q51_47, q51_48, q51_51, q51_52, q51_55, q51_56, rv_v, rv_n, rh_v, mu_at, isF_r, isK_r, fld_r, fset_r, gd0, gd1, gd2, gd3, gd4, gd5, gd6, gd7, gd8, gd9, gd10, gd11, gd12, gd13, inA_l, inW_l, inZ_l, inQ_l, aget_l, aset_l, qget_l, qset_l, isA_l, isA_q, alen_l, k2_i, k2_a, k2_n, k2_u, k2_l, ite_si, Option.isSome_some, List.cons_append, List.nil_append, List.length_cons, List.length_nil, Nat.reduceAdd, Nat.zero_add, Nat.reduceLT, Nat.reduceEqDiff, decide_true, decide_false, Bool.and_self, Bool.and_true, Bool.true_and, ↓reduceIte, List.set_cons_zero, List.set_cons_succ, Nat.reduceSub, Nat.add_left_cancel_iff, Nat.add_eq_left, Nat.left_eq_add, not_true_eq_false, not_false_eq_true, reduceCtorEq, i10, i01, ib10, ib01, beq_self_eq_true, eq_self, Int32.reduceLT, Int32.reduceToNatClampNeg, Int32.reduceAdd, Int32.reduceSub, Int32.reduceMul, Bool.or_true, Bool.true_or, Bool.or_false, Bool.false_or, Nat.reduceBEq, Nat.reduceMul, p_isWithin, if_neg hv, k1, hH, hK, e1]
theorem c_roll2 (v : Int32) (hv : ¬ bw v 20 400 = 0) (hp : ¬ (0 < σ.1 47 ∨ 0 < σ.1 52)) : cDo 51 a [.int v] σ (σ.1 1) (chg σ (some (upd σ.1 1 v))) := by
  intro h hC
  obtain ⟨m1, ek, gH, gf⟩ := c_keep hC
  have hC0 := hC
  obtain ⟨k1, k2, k3, k4, k5, k6, k7, k8⟩ := hC; unfold CO at k1; obtain ⟨S, q, ri, tr, ft, hA, hR⟩ := k2; have hH := hA.1; have h5 := hA.2.2.1; have h6 := hA.2.2.2; unfold CA at h5 h6; obtain ⟨kv1, kv2, hK⟩ := k4.kk
  have j1 := (gf a (by omega)).trans k1; have jA := hA.frame (m' := m1) (fun x g1 g2 => gf x (by omega)); have jH := jA.1; have j5 := jA.2.2.1; have j6 := jA.2.2.2; unfold CA at j5 j6
  have e1 := p_hasTaken hA
  have e2 : (if 0 < q 7 then (1 : Int32) else if 0 < q 12 then 1 else 0) = 0 := by
    rw [hR.i7, hR.i12, if_neg (fun z => hp (Or.inl z)), if_neg (fun z => hp (Or.inr z))]
  rw [e2] at e1
  have hw := jA.w0 (q' := upd q 1 v) (fun i hi => upd_n _ _ (by omega))
  have hm := hC0.ch (m' := mu m1 (a + 1) (.inr (2, [.int (q 0), .int v, .int (q 2), .ref (a + 1 + 1), .ref (a + 1 + 5), .ref (a + 1 + 6)]))) (r' := upd σ.1 1 v) (L' := pushH σ.2.1 σ.1) ⟨S, _, _, _, _, hw, hR.up v (by decide) (by decide)⟩ (gH.fr (fun x q1 q2 => mu_n _ _ (by omega))) (fun x q1 q2 => by rw [mu_n _ _ (by omega)]; exact gf x q2)
  refine ⟨_, ?_, hm.1, hm.2⟩
  have hq := hR.i1
  simp only [c51, q51_0, q51_1, q51_3, q51_6, q51_9, q51_12, q51_14, q51_15, q51_16, q51_19, q51_22, q51_25, q51_27, q51_28, q51_29, q51_32, q51_33, q51_36, q51_39, q51_40, q51_43, q51_46, q51_47, q51_48, q51_51, q51_52, q51_55, q51_56, rv_v, rv_n, rh_v, mu_at, isF_r, isK_r, fld_r, fset_r, gd0, gd1, gd2, gd3, gd4, gd5, gd6, gd7, gd8, gd9, gd10, gd11, gd12, gd13, inA_l, inW_l, inZ_l, inQ_l, aget_l, aset_l, qget_l, qset_l, isA_l, isA_q, alen_l, k2_i, k2_a, k2_n, k2_u, k2_l, ite_si, Option.isSome_some, List.cons_append, List.nil_append, List.length_cons, List.length_nil, Nat.reduceAdd, Nat.zero_add, Nat.reduceLT, Nat.reduceEqDiff, decide_true, decide_false, Bool.and_self, Bool.and_true, Bool.true_and, ↓reduceIte, List.set_cons_zero, List.set_cons_succ, Nat.reduceSub, Nat.add_left_cancel_iff, Nat.add_eq_left, Nat.left_eq_add, not_true_eq_false, not_false_eq_true, reduceCtorEq, i10, i01, ib10, ib01, beq_self_eq_true, eq_self, Int32.reduceLT, Int32.reduceToNatClampNeg, Int32.reduceAdd, Int32.reduceSub, Int32.reduceMul, Bool.or_true, Bool.true_or, Bool.or_false, Bool.false_or, Nat.reduceBEq, Nat.reduceMul, p_isWithin, if_neg hv, k1, hH, hK, e1, ek, j1, jH, hq]
theorem c_slack2 (v : Int32) (hv : ¬ bw v 0 9 = 0) : cDo 52 a [.int v] σ (σ.1 2) (chg σ (some (upd σ.1 2 v))) := by
  intro h hC
  obtain ⟨m1, ek, gH, gf⟩ := c_keep hC
  have hC0 := hC
  obtain ⟨k1, k2, k3, k4, k5, k6, k7, k8⟩ := hC; unfold CO at k1; obtain ⟨S, q, ri, tr, ft, hA, hR⟩ := k2; have hH := hA.1; have h5 := hA.2.2.1; have h6 := hA.2.2.2; unfold CA at h5 h6; obtain ⟨kv1, kv2, hK⟩ := k4.kk
  have j1 := (gf a (by omega)).trans k1; have jA := hA.frame (m' := m1) (fun x g1 g2 => gf x (by omega)); have jH := jA.1; have j5 := jA.2.2.1; have j6 := jA.2.2.2; unfold CA at j5 j6
  have hw := jA.w0 (q' := upd q 2 v) (fun i hi => upd_n _ _ (by omega))
  have hm := hC0.ch (m' := mu m1 (a + 1) (.inr (2, [.int (q 0), .int (q 1), .int v, .ref (a + 1 + 1), .ref (a + 1 + 5), .ref (a + 1 + 6)]))) (r' := upd σ.1 2 v) (L' := pushH σ.2.1 σ.1) ⟨S, _, _, _, _, hw, hR.up v (by decide) (by decide)⟩ (gH.fr (fun x q1 q2 => mu_n _ _ (by omega))) (fun x q1 q2 => by rw [mu_n _ _ (by omega)]; exact gf x q2)
  refine ⟨_, ?_, hm.1, hm.2⟩
  have hq := hR.i2
  simp only [c52, q52_0, q52_1, q52_2, q52_4, q52_7, q52_10, q52_12, q52_13, q52_14, q52_17, q52_18, q52_21, q52_24, q52_25, q52_28, q52_31, q52_32, q52_33, q52_36, q52_37, q52_40, q52_41, rv_v, rv_n, rh_v, mu_at, isF_r, isK_r, fld_r, fset_r, gd0, gd1, gd2, gd3, gd4, gd5, gd6, gd7, gd8, gd9, gd10, gd11, gd12, gd13, inA_l, inW_l, inZ_l, inQ_l, aget_l, aset_l, qget_l, qset_l, isA_l, isA_q, alen_l, k2_i, k2_a, k2_n, k2_u, k2_l, ite_si, Option.isSome_some, List.cons_append, List.nil_append, List.length_cons, List.length_nil, Nat.reduceAdd, Nat.zero_add, Nat.reduceLT, Nat.reduceEqDiff, decide_true, decide_false, Bool.and_self, Bool.and_true, Bool.true_and, ↓reduceIte, List.set_cons_zero, List.set_cons_succ, Nat.reduceSub, Nat.add_left_cancel_iff, Nat.add_eq_left, Nat.left_eq_add, not_true_eq_false, not_false_eq_true, reduceCtorEq, i10, i01, ib10, ib01, beq_self_eq_true, eq_self, Int32.reduceLT, Int32.reduceToNatClampNeg, Int32.reduceAdd, Int32.reduceSub, Int32.reduceMul, Bool.or_true, Bool.true_or, Bool.or_false, Bool.false_or, Nat.reduceBEq, Nat.reduceMul, p_isWithin, if_neg hv, k1, hH, hK, ek, j1, jH, hq]
theorem c_rep1 (v : Int32) (hv : ¬ bw v 2 60 = 0) (hp : (0 < σ.1 47 ∨ 0 < σ.1 52) ∨ ¬ σ.1 44 < v ∨ ¬ σ.1 49 < v) : cDo 50 a [.int v] σ (-5) σ := by
  refine cDo.same fun h hC => ?_
  obtain ⟨k1, k2, k3, k4, k5, k6, k7, k8⟩ := hC; unfold CO at k1; obtain ⟨S, q, ri, tr, ft, hA, hR⟩ := k2; have hH := hA.1; have h5 := hA.2.2.1; have h6 := hA.2.2.2; unfold CA at h5 h6; obtain ⟨kv1, kv2, hK⟩ := k4.kk
  have e1 := p_hasTaken hA
  rw [hR.i7, hR.i12] at e1
  have h4 := hR.i4
  have h9 := hR.i9
  by_cases hz : 0 < σ.1 47
  · rw [if_pos hz] at e1
    simp only [c50, q50_0, q50_1, q50_2, q50_4, q50_7, q50_10, q50_12, q50_13, q50_14, q50_17, q50_20, q50_23, q50_24, q50_27, q50_30, q50_33, q50_34, q50_37, q50_38, q50_41, q50_44, q50_47, q50_48, q50_51, q50_53, q50_54, q50_55, q50_58, q50_59, q50_62, q50_65, q50_66, q50_69, q50_72, q50_73, q50_74, q50_77, q50_78, q50_81, q50_82, rv_v, rv_n, rh_v, mu_at, isF_r, isK_r, fld_r, fset_r, gd0, gd1, gd2, gd3, gd4, gd5, gd6, gd7, gd8, gd9, gd10, gd11, gd12, gd13, inA_l, inW_l, inZ_l, inQ_l, aget_l, aset_l, qget_l, qset_l, isA_l, isA_q, alen_l, k2_i, k2_a, k2_n, k2_u, k2_l, ite_si, Option.isSome_some, List.cons_append, List.nil_append, List.length_cons, List.length_nil, Nat.reduceAdd, Nat.zero_add, Nat.reduceLT, Nat.reduceEqDiff, decide_true, decide_false, Bool.and_self, Bool.and_true, Bool.true_and, ↓reduceIte, List.set_cons_zero, List.set_cons_succ, Nat.reduceSub, Nat.add_left_cancel_iff, Nat.add_eq_left, Nat.left_eq_add, not_true_eq_false, not_false_eq_true, reduceCtorEq, i10, i01, ib10, ib01, beq_self_eq_true, eq_self, Int32.reduceLT, Int32.reduceToNatClampNeg, Int32.reduceAdd, Int32.reduceSub, Int32.reduceMul, Bool.or_true, Bool.true_or, Bool.or_false, Bool.false_or, Nat.reduceBEq, Nat.reduceMul, p_isWithin, if_neg hv, k1, hH, hK, e1]
  · rw [if_neg hz] at e1
    by_cases hw : 0 < σ.1 52
    · rw [if_pos hw] at e1
      simp only [c50, q50_0, q50_1, q50_2, q50_4, q50_7, q50_10, q50_12, q50_13, q50_14, q50_17, q50_20, q50_23, q50_24, q50_27, q50_30, q50_33, q50_34, q50_37, q50_38, q50_41, q50_44, q50_47, q50_48, q50_51, q50_53, q50_54, q50_55, q50_58, q50_59, q50_62, q50_65, q50_66, q50_69, q50_72, q50_73, q50_74, q50_77, q50_78, q50_81, q50_82, rv_v, rv_n, rh_v, mu_at, isF_r, isK_r, fld_r, fset_r, gd0, gd1, gd2, gd3, gd4, gd5, gd6, gd7, gd8, gd9, gd10, gd11, gd12, gd13, inA_l, inW_l, inZ_l, inQ_l, aget_l, aset_l, qget_l, qset_l, isA_l, isA_q, alen_l, k2_i, k2_a, k2_n, k2_u, k2_l, ite_si, Option.isSome_some, List.cons_append, List.nil_append, List.length_cons, List.length_nil, Nat.reduceAdd, Nat.zero_add, Nat.reduceLT, Nat.reduceEqDiff, decide_true, decide_false, Bool.and_self, Bool.and_true, Bool.true_and, ↓reduceIte, List.set_cons_zero, List.set_cons_succ, Nat.reduceSub, Nat.add_left_cancel_iff, Nat.add_eq_left, Nat.left_eq_add, not_true_eq_false, not_false_eq_true, reduceCtorEq, i10, i01, ib10, ib01, beq_self_eq_true, eq_self, Int32.reduceLT, Int32.reduceToNatClampNeg, Int32.reduceAdd, Int32.reduceSub, Int32.reduceMul, Bool.or_true, Bool.true_or, Bool.or_false, Bool.false_or, Nat.reduceBEq, Nat.reduceMul, p_isWithin, if_neg hv, k1, hH, hK, e1]
    · rw [if_neg hw] at e1
      have hp := hp.resolve_left (fun x => x.elim hz hw)
      by_cases hb : σ.1 44 < v
      · have hc := hp.resolve_left (fun x => x hb)
        simp only [c50, q50_0, q50_1, q50_2, q50_4, q50_7, q50_10, q50_12, q50_13, q50_14, q50_17, q50_20, q50_23, q50_24, q50_27, q50_30, q50_33, q50_34, q50_37, q50_38, q50_41, q50_44, q50_47, q50_48, q50_51, q50_53, q50_54, q50_55, q50_58, q50_59, q50_62, q50_65, q50_66, q50_69, q50_72, q50_73, q50_74, q50_77, q50_78, q50_81, q50_82, rv_v, rv_n, rh_v, mu_at, isF_r, isK_r, fld_r, fset_r, gd0, gd1, gd2, gd3, gd4, gd5, gd6, gd7, gd8, gd9, gd10, gd11, gd12, gd13, inA_l, inW_l, inZ_l, inQ_l, aget_l, aset_l, qget_l, qset_l, isA_l, isA_q, alen_l, k2_i, k2_a, k2_n, k2_u, k2_l, ite_si, Option.isSome_some, List.cons_append, List.nil_append, List.length_cons, List.length_nil, Nat.reduceAdd, Nat.zero_add, Nat.reduceLT, Nat.reduceEqDiff, decide_true, decide_false, Bool.and_self, Bool.and_true, Bool.true_and, ↓reduceIte, List.set_cons_zero, List.set_cons_succ, Nat.reduceSub, Nat.add_left_cancel_iff, Nat.add_eq_left, Nat.left_eq_add, not_true_eq_false, not_false_eq_true, reduceCtorEq, i10, i01, ib10, ib01, beq_self_eq_true, eq_self, Int32.reduceLT, Int32.reduceToNatClampNeg, Int32.reduceAdd, Int32.reduceSub, Int32.reduceMul, Bool.or_true, Bool.true_or, Bool.or_false, Bool.false_or, Nat.reduceBEq, Nat.reduceMul, p_isWithin, if_neg hv, k1, hH, hK, e1, h5, h6, h4, h9, if_pos hb, if_neg hc]
      · simp only [c50, q50_0, q50_1, q50_2, q50_4, q50_7, q50_10, q50_12, q50_13, q50_14, q50_17, q50_20, q50_23, q50_24, q50_27, q50_30, q50_33, q50_34, q50_37, q50_38, q50_41, q50_44, q50_47, q50_48, q50_51, q50_53, q50_54, q50_55, q50_58, q50_59, q50_62, q50_65, q50_66, q50_69, q50_72, q50_73, q50_74, q50_77, q50_78, q50_81, q50_82, rv_v, rv_n, rh_v, mu_at, isF_r, isK_r, fld_r, fset_r, gd0, gd1, gd2, gd3, gd4, gd5, gd6, gd7, gd8, gd9, gd10, gd11, gd12, gd13, inA_l, inW_l, inZ_l, inQ_l, aget_l, aset_l, qget_l, qset_l, isA_l, isA_q, alen_l, k2_i, k2_a, k2_n, k2_u, k2_l, ite_si, Option.isSome_some, List.cons_append, List.nil_append, List.length_cons, List.length_nil, Nat.reduceAdd, Nat.zero_add, Nat.reduceLT, Nat.reduceEqDiff, decide_true, decide_false, Bool.and_self, Bool.and_true, Bool.true_and, ↓reduceIte, List.set_cons_zero, List.set_cons_succ, Nat.reduceSub, Nat.add_left_cancel_iff, Nat.add_eq_left, Nat.left_eq_add, not_true_eq_false, not_false_eq_true, reduceCtorEq, i10, i01, ib10, ib01, beq_self_eq_true, eq_self, Int32.reduceLT, Int32.reduceToNatClampNeg, Int32.reduceAdd, Int32.reduceSub, Int32.reduceMul, Bool.or_true, Bool.true_or, Bool.or_false, Bool.false_or, Nat.reduceBEq, Nat.reduceMul, p_isWithin, if_neg hv, k1, hH, hK, e1, h5, h6, h4, h9, if_neg hb]
theorem c_rep2 (v : Int32) (hv : ¬ bw v 2 60 = 0) (hp : ¬ (0 < σ.1 47 ∨ 0 < σ.1 52)) (hb : σ.1 44 < v) (hc : σ.1 49 < v) : cDo 50 a [.int v] σ (σ.1 0) (chg σ (some (upd σ.1 0 v))) := by
  intro h hC
  obtain ⟨m1, ek, gH, gf⟩ := c_keep hC
  have hC0 := hC
  obtain ⟨k1, k2, k3, k4, k5, k6, k7, k8⟩ := hC; unfold CO at k1; obtain ⟨S, q, ri, tr, ft, hA, hR⟩ := k2; have hH := hA.1; have h5 := hA.2.2.1; have h6 := hA.2.2.2; unfold CA at h5 h6; obtain ⟨kv1, kv2, hK⟩ := k4.kk
  have j1 := (gf a (by omega)).trans k1; have jA := hA.frame (m' := m1) (fun x g1 g2 => gf x (by omega)); have jH := jA.1; have j5 := jA.2.2.1; have j6 := jA.2.2.2; unfold CA at j5 j6
  have e1 := p_hasTaken hA
  have e2 : (if 0 < q 7 then (1 : Int32) else if 0 < q 12 then 1 else 0) = 0 := by
    rw [hR.i7, hR.i12, if_neg (fun z => hp (Or.inl z)), if_neg (fun z => hp (Or.inr z))]
  rw [e2] at e1
  have h4 := hR.i4
  have h9 := hR.i9
  have hw := jA.w0 (q' := upd q 0 v) (fun i hi => upd_n _ _ (by omega))
  have hm := hC0.ch (m' := mu m1 (a + 1) (.inr (2, [.int v, .int (q 1), .int (q 2), .ref (a + 1 + 1), .ref (a + 1 + 5), .ref (a + 1 + 6)]))) (r' := upd σ.1 0 v) (L' := pushH σ.2.1 σ.1) ⟨S, _, _, _, _, hw, hR.up v (by decide) (by decide)⟩ (gH.fr (fun x q1 q2 => mu_n _ _ (by omega))) (fun x q1 q2 => by rw [mu_n _ _ (by omega)]; exact gf x q2)
  refine ⟨_, ?_, hm.1, hm.2⟩
  have hq := hR.i0
  simp only [c50, q50_0, q50_1, q50_2, q50_4, q50_7, q50_10, q50_12, q50_13, q50_14, q50_17, q50_20, q50_23, q50_24, q50_27, q50_30, q50_33, q50_34, q50_37, q50_38, q50_41, q50_44, q50_47, q50_48, q50_51, q50_53, q50_54, q50_55, q50_58, q50_59, q50_62, q50_65, q50_66, q50_69, q50_72, q50_73, q50_74, q50_77, q50_78, q50_81, q50_82, rv_v, rv_n, rh_v, mu_at, isF_r, isK_r, fld_r, fset_r, gd0, gd1, gd2, gd3, gd4, gd5, gd6, gd7, gd8, gd9, gd10, gd11, gd12, gd13, inA_l, inW_l, inZ_l, inQ_l, aget_l, aset_l, qget_l, qset_l, isA_l, isA_q, alen_l, k2_i, k2_a, k2_n, k2_u, k2_l, ite_si, Option.isSome_some, List.cons_append, List.nil_append, List.length_cons, List.length_nil, Nat.reduceAdd, Nat.zero_add, Nat.reduceLT, Nat.reduceEqDiff, decide_true, decide_false, Bool.and_self, Bool.and_true, Bool.true_and, ↓reduceIte, List.set_cons_zero, List.set_cons_succ, Nat.reduceSub, Nat.add_left_cancel_iff, Nat.add_eq_left, Nat.left_eq_add, not_true_eq_false, not_false_eq_true, reduceCtorEq, i10, i01, ib10, ib01, beq_self_eq_true, eq_self, Int32.reduceLT, Int32.reduceToNatClampNeg, Int32.reduceAdd, Int32.reduceSub, Int32.reduceMul, Bool.or_true, Bool.true_or, Bool.or_false, Bool.false_or, Nat.reduceBEq, Nat.reduceMul, p_isWithin, if_neg hv, k1, hH, hK, h5, h6, h4, h9, if_pos hb, if_pos hc, e1, ek, j1, jH, hq]
/-- set, by the setting -/
theorem c_set (s v : Int32) {x : Int32} {σ' : AS} (h : (s = 0 ∧ cDo 50 a [.int v] σ x σ') ∨ (s = 1 ∧ cDo 51 a [.int v] σ x σ') ∨ (s = 2 ∧ cDo 52 a [.int v] σ x σ')) : cDo 49 a [.int s, .int v] σ x σ' := by
  intro g hC
  have k1 := hC.1
  unfold CO at k1
  have z10 : ((1 : Int32) = 0) = False := by decide
  have z20 : ((2 : Int32) = 0) = False := by decide
  have z21 : ((2 : Int32) = 1) = False := by decide
  rcases h with ⟨rfl, h⟩ | ⟨rfl, h⟩ | ⟨rfl, h⟩
  · obtain ⟨m', e, h1, h2⟩ := h g hC
    refine ⟨m', ?_, h1, h2⟩
    simp only [c49, q49_0, q49_1, q49_28, q49_29, q49_30, q49_33, q49_34, q49_35, q49_36, q49_39, q49_40, q49_41, q49_42, q49_45, q49_46, q49_48, rv_v, rv_n, rh_v, mu_at, isF_r, isK_r, fld_r, fset_r, gd0, gd1, gd2, gd3, gd4, gd5, gd6, gd7, gd8, gd9, gd10, gd11, gd12, gd13, inA_l, inW_l, inZ_l, inQ_l, aget_l, aset_l, qget_l, qset_l, isA_l, isA_q, alen_l, k2_i, k2_a, k2_n, k2_u, k2_l, ite_si, Option.isSome_some, List.cons_append, List.nil_append, List.length_cons, List.length_nil, Nat.reduceAdd, Nat.zero_add, Nat.reduceLT, Nat.reduceEqDiff, decide_true, decide_false, Bool.and_self, Bool.and_true, Bool.true_and, ↓reduceIte, List.set_cons_zero, List.set_cons_succ, Nat.reduceSub, Nat.add_left_cancel_iff, Nat.add_eq_left, Nat.left_eq_add, not_true_eq_false, not_false_eq_true, reduceCtorEq, i10, i01, ib10, ib01, beq_self_eq_true, eq_self, Int32.reduceLT, Int32.reduceToNatClampNeg, Int32.reduceAdd, Int32.reduceSub, Int32.reduceMul, Bool.or_true, Bool.true_or, Bool.or_false, Bool.false_or, Nat.reduceBEq, Nat.reduceMul, k1, e]
  · obtain ⟨m', e, h1, h2⟩ := h g hC
    refine ⟨m', ?_, h1, h2⟩
    simp only [c49, q49_0, q49_1, q49_28, q49_29, q49_30, q49_33, q49_34, q49_35, q49_36, q49_39, q49_40, q49_41, q49_42, q49_45, q49_46, q49_48, rv_v, rv_n, rh_v, mu_at, isF_r, isK_r, fld_r, fset_r, gd0, gd1, gd2, gd3, gd4, gd5, gd6, gd7, gd8, gd9, gd10, gd11, gd12, gd13, inA_l, inW_l, inZ_l, inQ_l, aget_l, aset_l, qget_l, qset_l, isA_l, isA_q, alen_l, k2_i, k2_a, k2_n, k2_u, k2_l, ite_si, Option.isSome_some, List.cons_append, List.nil_append, List.length_cons, List.length_nil, Nat.reduceAdd, Nat.zero_add, Nat.reduceLT, Nat.reduceEqDiff, decide_true, decide_false, Bool.and_self, Bool.and_true, Bool.true_and, ↓reduceIte, List.set_cons_zero, List.set_cons_succ, Nat.reduceSub, Nat.add_left_cancel_iff, Nat.add_eq_left, Nat.left_eq_add, not_true_eq_false, not_false_eq_true, reduceCtorEq, i10, i01, ib10, ib01, beq_self_eq_true, eq_self, Int32.reduceLT, Int32.reduceToNatClampNeg, Int32.reduceAdd, Int32.reduceSub, Int32.reduceMul, Bool.or_true, Bool.true_or, Bool.or_false, Bool.false_or, Nat.reduceBEq, Nat.reduceMul, k1, z10, e]
  · obtain ⟨m', e, h1, h2⟩ := h g hC
    refine ⟨m', ?_, h1, h2⟩
    simp only [c49, q49_0, q49_1, q49_28, q49_29, q49_30, q49_33, q49_34, q49_35, q49_36, q49_39, q49_40, q49_41, q49_42, q49_45, q49_46, q49_48, rv_v, rv_n, rh_v, mu_at, isF_r, isK_r, fld_r, fset_r, gd0, gd1, gd2, gd3, gd4, gd5, gd6, gd7, gd8, gd9, gd10, gd11, gd12, gd13, inA_l, inW_l, inZ_l, inQ_l, aget_l, aset_l, qget_l, qset_l, isA_l, isA_q, alen_l, k2_i, k2_a, k2_n, k2_u, k2_l, ite_si, Option.isSome_some, List.cons_append, List.nil_append, List.length_cons, List.length_nil, Nat.reduceAdd, Nat.zero_add, Nat.reduceLT, Nat.reduceEqDiff, decide_true, decide_false, Bool.and_self, Bool.and_true, Bool.true_and, ↓reduceIte, List.set_cons_zero, List.set_cons_succ, Nat.reduceSub, Nat.add_left_cancel_iff, Nat.add_eq_left, Nat.left_eq_add, not_true_eq_false, not_false_eq_true, reduceCtorEq, i10, i01, ib10, ib01, beq_self_eq_true, eq_self, Int32.reduceLT, Int32.reduceToNatClampNeg, Int32.reduceAdd, Int32.reduceSub, Int32.reduceMul, Bool.or_true, Bool.true_or, Bool.or_false, Bool.false_or, Nat.reduceBEq, Nat.reduceMul, k1, z20, z21, e]
theorem c_set0 (s v : Int32) (h : msv s v = 0) : cDo 49 a [.int s, .int v] σ (-2) σ := by
  unfold msv at h
  by_cases h0 : s = 0
  · rw [if_pos h0] at h
    exact c_set s v (Or.inl ⟨h0, (c_sets0 v).1 h⟩)
  · rw [if_neg h0] at h
    by_cases h1 : s = 1
    · rw [if_pos h1] at h
      exact c_set s v (Or.inr (Or.inl ⟨h1, (c_sets0 v).2.1 h⟩))
    · rw [if_neg h1] at h
      by_cases h2 : s = 2
      · rw [if_pos h2] at h
        have hb : bw v 0 9 = 0 := Classical.byContradiction fun z => by rw [if_neg z] at h; exact absurd h (by decide)
        exact c_set s v (Or.inr (Or.inr ⟨h2, (c_sets0 v).2.2 hb⟩))
      · refine cDo.same fun g hC => ?_
        simp only [c49, q49_0, q49_1, q49_28, q49_29, q49_30, q49_33, q49_34, q49_35, q49_36, q49_39, q49_40, q49_41, q49_42, q49_45, q49_46, q49_48, rv_v, rv_n, rh_v, mu_at, isF_r, isK_r, fld_r, fset_r, gd0, gd1, gd2, gd3, gd4, gd5, gd6, gd7, gd8, gd9, gd10, gd11, gd12, gd13, inA_l, inW_l, inZ_l, inQ_l, aget_l, aset_l, qget_l, qset_l, isA_l, isA_q, alen_l, k2_i, k2_a, k2_n, k2_u, k2_l, ite_si, Option.isSome_some, List.cons_append, List.nil_append, List.length_cons, List.length_nil, Nat.reduceAdd, Nat.zero_add, Nat.reduceLT, Nat.reduceEqDiff, decide_true, decide_false, Bool.and_self, Bool.and_true, Bool.true_and, ↓reduceIte, List.set_cons_zero, List.set_cons_succ, Nat.reduceSub, Nat.add_left_cancel_iff, Nat.add_eq_left, Nat.left_eq_add, not_true_eq_false, not_false_eq_true, reduceCtorEq, i10, i01, ib10, ib01, beq_self_eq_true, eq_self, Int32.reduceLT, Int32.reduceToNatClampNeg, Int32.reduceAdd, Int32.reduceSub, Int32.reduceMul, Bool.or_true, Bool.true_or, Bool.or_false, Bool.false_or, Nat.reduceBEq, Nat.reduceMul, h0, h1, h2]
end
