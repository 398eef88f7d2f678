theorem two_lt {x y : Nat} (hx : x < 2 ^ 20) (hy : y < 2 ^ 20) : (0 < nI x + nI y) ↔ (0 < nI x ∨ 0 < nI y) := by
  have e : nI x + nI y = nI (x + y) := nI_add x y
  rw [e]
  constructor
  · intro h
    by_cases hz : 0 < x
    · exact Or.inl (nI_0lt hz (by omega))
    · by_cases hw : 0 < y
      · exact Or.inr (nI_0lt hw (by omega))
      · obtain rfl : x = 0 := by omega
        obtain rfl : y = 0 := by omega
        exact absurd h (by decide)
  · rintro (h | h)
    · have : x ≠ 0 := fun q => by rw [q] at h; exact absurd h (by decide)
      exact nI_0lt (by omega) (by omega)
    · have : y ≠ 0 := fun q => by rw [q] at h; exact absurd h (by decide)
      exact nI_0lt (by omega) (by omega)
theorem RI.pcs {k : Nat} {r : Row} (h : RI k r) (hk : k < 2 ^ 20) : (0 < r 47 + r 52) ↔ (0 < r 47 ∨ 0 < r 52) := by
  obtain ⟨S, u0, u1, p0, p1, R, O, b0, b1, l0, l1, sl, ⟨e1, e2, e3, e4, e5, -⟩, ⟨f1, f2, f3, f4, -⟩, -⟩ := h
  rw [e4, e5]
  exact two_lt (by omega) (by omega)
section
variable {a k : Nat} {σ : AS}
theorem c_sets0 (v : Int32) : (bw v 2 60 = 0 → cDo 60 a [.int v] σ (-2) σ) ∧ (bw v 20 400 = 0 → cDo 61 a [.int v] σ (-2) σ) ∧ (bw v 0 9 = 0 → cDo 62 a [.int v] σ (-2) σ) := by
  refine ⟨fun hv => cDo.same fun h hC => ?_, fun hv => cDo.same fun h hC => ?_, fun hv => cDo.same fun h hC => ?_⟩
  · simp only [c60, q60_0, q60_1, q60_2, q60_4, q60_7, q60_10, q60_12, q60_13, q60_14, q60_17, q60_20, q60_23, q60_24, q60_27, q60_30, q60_33, q60_34, q60_37, q60_38, q60_41, q60_44, q60_47, q60_48, q60_51, q60_53, q60_54, q60_55, q60_58, q60_59, q60_62, q60_65, q60_66, q60_69, q60_72, q60_73, q60_74, q60_77, q60_78, q60_81, q60_82, rv_v, rv_n, rh_v, mu_at, isF_r, isK_r, fld_r, fset_r, gd0, gd1, gd2, gd3, gd4, gd5, gd6, gd7, gd8, gd9, gd10, gd11, gd12, gd13, inA_l, inW_l, inZ_l, inQ_l, aget_l, aset_l, qget_l, qset_l, isA_l, isA_q, alen_l, k2_i, k2_a, k2_n, k2_u, k2_l, ite_si, Option.isSome_some, List.cons_append, List.nil_append, List.length_cons, List.length_nil, Nat.reduceAdd, Nat.zero_add, Nat.reduceLT, Nat.reduceEqDiff, decide_true, decide_false, Bool.and_self, Bool.and_true, Bool.true_and, ↓reduceIte, List.set_cons_zero, List.set_cons_succ, Nat.reduceSub, Nat.add_left_cancel_iff, Nat.add_eq_left, Nat.left_eq_add, not_true_eq_false, not_false_eq_true, reduceCtorEq, i10, i01, ib10, ib01, beq_self_eq_true, eq_self, Int32.reduceLT, Int32.reduceToNatClampNeg, Int32.reduceAdd, Int32.reduceSub, Int32.reduceMul, Bool.or_true, Bool.true_or, Bool.or_false, Bool.false_or, Nat.reduceBEq, Nat.reduceMul, p_isWithin, if_pos hv]
  · simp only [c61, q61_0, q61_1, q61_3, q61_6, q61_9, q61_12, q61_14, q61_15, q61_16, q61_19, q61_22, q61_25, q61_27, q61_28, q61_29, q61_32, q61_33, q61_36, q61_39, q61_40, q61_43, q61_46, q61_47, q61_48, q61_51, q61_52, q61_55, q61_56, rv_v, rv_n, rh_v, mu_at, isF_r, isK_r, fld_r, fset_r, gd0, gd1, gd2, gd3, gd4, gd5, gd6, gd7, gd8, gd9, gd10, gd11, gd12, gd13, inA_l, inW_l, inZ_l, inQ_l, aget_l, aset_l, qget_l, qset_l, isA_l, isA_q, alen_l, k2_i, k2_a, k2_n, k2_u, k2_l, ite_si, Option.isSome_some, List.cons_append, List.nil_append, List.length_cons, List.length_nil, Nat.reduceAdd, Nat.zero_add, Nat.reduceLT, Nat.reduceEqDiff, decide_true, decide_false, Bool.and_self, Bool.and_true, Bool.true_and, ↓reduceIte, List.set_cons_zero, List.set_cons_succ, Nat.reduceSub, Nat.add_left_cancel_iff, Nat.add_eq_left, Nat.left_eq_add, not_true_eq_false, not_false_eq_true, reduceCtorEq, i10, i01, ib10, ib01, beq_self_eq_true, eq_self, Int32.reduceLT, Int32.reduceToNatClampNeg, Int32.reduceAdd, Int32.reduceSub, Int32.reduceMul, Bool.or_true, Bool.true_or, Bool.or_false, Bool.false_or, Nat.reduceBEq, Nat.reduceMul, p_isWithin, if_pos hv]
  · simp only [c62, q62_0, q62_1, q62_2, q62_4, q62_7, q62_10, q62_12, q62_13, q62_14, q62_17, q62_18, q62_21, q62_24, q62_25, q62_28, q62_31, q62_32, q62_33, q62_36, q62_37, q62_40, q62_41, rv_v, rv_n, rh_v, mu_at, isF_r, isK_r, fld_r, fset_r, gd0, gd1, gd2, gd3, gd4, gd5, gd6, gd7, gd8, gd9, gd10, gd11, gd12, gd13, inA_l, inW_l, inZ_l, inQ_l, aget_l, aset_l, qget_l, qset_l, isA_l, isA_q, alen_l, k2_i, k2_a, k2_n, k2_u, k2_l, ite_si, Option.isSome_some, List.cons_append, List.nil_append, List.length_cons, List.length_nil, Nat.reduceAdd, Nat.zero_add, Nat.reduceLT, Nat.reduceEqDiff, decide_true, decide_false, Bool.and_self, Bool.and_true, Bool.true_and, ↓reduceIte, List.set_cons_zero, List.set_cons_succ, Nat.reduceSub, Nat.add_left_cancel_iff, Nat.add_eq_left, Nat.left_eq_add, not_true_eq_false, not_false_eq_true, reduceCtorEq, i10, i01, ib10, ib01, beq_self_eq_true, eq_self, Int32.reduceLT, Int32.reduceToNatClampNeg, Int32.reduceAdd, Int32.reduceSub, Int32.reduceMul, Bool.or_true, Bool.true_or, Bool.or_false, Bool.false_or, Nat.reduceBEq, Nat.reduceMul, p_isWithin, if_pos hv]
theorem c_roll1 (v : Int32) (hv : ¬ bw v 20 400 = 0) (hp : 0 < σ.1 47 ∨ 0 < σ.1 52) : cDo 61 a [.int v] σ (-5) σ := by
  refine cDo.same fun h hC => ?_
  obtain ⟨k1, k2, k3, k4, k5, k6, k7, k8⟩ := hC; unfold CO at k1; obtain ⟨S, q, ri, tr, ft, hA, hR⟩ := k2; have hH := hA.1; have h5 := hA.2.2.1; have h6 := hA.2.2.2; unfold CA at h5 h6; obtain ⟨kv1, kv2, hK⟩ := k4.kk
  have e1 := p_hasTaken hA
  have e2 : (if 0 < q 7 then (1 : Int32) else if 0 < q 12 then 1 else 0) = 1 := by
    rw [hR.i7, hR.i12]
    by_cases hz : 0 < σ.1 47
    · rw [if_pos hz]
    · rw [if_neg hz, if_pos (hp.resolve_left hz)]
  rw [e2] at e1
  simp only [c61, q61_0, q61_1, q61_3, q61_6, q61_9, q61_12, q61_14, q61_15, q61_16, q61_19, q61_22, q61_25, q61_27, q61_28, q61_29, q61_32, q61_33, q61_36, q61_39, q61_40, q61_43, q61_46, q61_47, q61_48, q61_51, q61_52, q61_55, q61_56, rv_v, rv_n, rh_v, mu_at, isF_r, isK_r, fld_r, fset_r, gd0, gd1, gd2, gd3, gd4, gd5, gd6, gd7, gd8, gd9, gd10, gd11, gd12, gd13, inA_l, inW_l, inZ_l, inQ_l, aget_l, aset_l, qget_l, qset_l, isA_l, isA_q, alen_l, k2_i, k2_a, k2_n, k2_u, k2_l, ite_si, Option.isSome_some, List.cons_append, List.nil_append, List.length_cons, List.length_nil, Nat.reduceAdd, Nat.zero_add, Nat.reduceLT, Nat.reduceEqDiff, decide_true, decide_false, Bool.and_self, Bool.and_true, Bool.true_and, ↓reduceIte, List.set_cons_zero, List.set_cons_succ, Nat.reduceSub, Nat.add_left_cancel_iff, Nat.add_eq_left, Nat.left_eq_add, not_true_eq_false, not_false_eq_true, reduceCtorEq, i10, i01, ib10, ib01, beq_self_eq_true, eq_self, Int32.reduceLT, Int32.reduceToNatClampNeg, Int32.reduceAdd, Int32.reduceSub, Int32.reduceMul, Bool.or_true, Bool.true_or, Bool.or_false, Bool.false_or, Nat.reduceBEq, Nat.reduceMul, p_isWithin, if_neg hv, k1, hH, hK, e1]
theorem c_roll2 (v : Int32) (hv : ¬ bw v 20 400 = 0) (hp : ¬ (0 < σ.1 47 ∨ 0 < σ.1 52)) : cDo 61 a [.int v] σ (σ.1 1) (chg σ (some (upd σ.1 1 v))) := by
  intro h hC
  obtain ⟨m1, ek, gH, gf⟩ := c_keep hC
  have hC0 := hC
  obtain ⟨k1, k2, k3, k4, k5, k6, k7, k8⟩ := hC; unfold CO at k1; obtain ⟨S, q, ri, tr, ft, hA, hR⟩ := k2; have hH := hA.1; have h5 := hA.2.2.1; have h6 := hA.2.2.2; unfold CA at h5 h6; obtain ⟨kv1, kv2, hK⟩ := k4.kk
  have j1 := (gf a (by omega)).trans k1; have jA := hA.frame (m' := m1) (fun x g1 g2 => gf x (by omega)); have jH := jA.1; have j5 := jA.2.2.1; have j6 := jA.2.2.2; unfold CA at j5 j6
  have e1 := p_hasTaken hA
  have e2 : (if 0 < q 7 then (1 : Int32) else if 0 < q 12 then 1 else 0) = 0 := by
    rw [hR.i7, hR.i12, if_neg (fun z => hp (Or.inl z)), if_neg (fun z => hp (Or.inr z))]
  rw [e2] at e1
  have hw := jA.w0 (q' := upd q 1 v) (fun i hi => upd_n _ _ (by omega))
  have hm := hC0.ch (m' := mu m1 (a + 1) (.inr (2, [.int (q 0), .int v, .int (q 2), .ref (a + 1 + 1), .ref (a + 1 + 5), .ref (a + 1 + 6)]))) (r' := upd σ.1 1 v) (L' := pushH σ.2.1 σ.1) ⟨S, _, _, _, _, hw, hR.up v (by decide) (by decide)⟩ (gH.fr (fun x q1 q2 => mu_n _ _ (by omega))) (fun x q1 q2 => by rw [mu_n _ _ (by omega)]; exact gf x q2)
  refine ⟨_, ?_, hm.1, hm.2⟩
  have hq := hR.i1
  simp only [c61, q61_0, q61_1, q61_3, q61_6, q61_9, q61_12, q61_14, q61_15, q61_16, q61_19, q61_22, q61_25, q61_27, q61_28, q61_29, q61_32, q61_33, q61_36, q61_39, q61_40, q61_43, q61_46, q61_47, q61_48, q61_51, q61_52, q61_55, q61_56, rv_v, rv_n, rh_v, mu_at, isF_r, isK_r, fld_r, fset_r, gd0, gd1, gd2, gd3, gd4, gd5, gd6, gd7, gd8, gd9, gd10, gd11, gd12, gd13, inA_l, inW_l, inZ_l, inQ_l, aget_l, aset_l, qget_l, qset_l, isA_l, isA_q, alen_l, k2_i, k2_a, k2_n, k2_u, k2_l, ite_si, Option.isSome_some, List.cons_append, List.nil_append, List.length_cons, List.length_nil, Nat.reduceAdd, Nat.zero_add, Nat.reduceLT, Nat.reduceEqDiff, decide_true, decide_false, Bool.and_self, Bool.and_true, Bool.true_and, ↓reduceIte, List.set_cons_zero, List.set_cons_succ, Nat.reduceSub, Nat.add_left_cancel_iff, Nat.add_eq_left, Nat.left_eq_add, not_true_eq_false, not_false_eq_true, reduceCtorEq, i10, i01, ib10, ib01, beq_self_eq_true, eq_self, Int32.reduceLT, Int32.reduceToNatClampNeg, Int32.reduceAdd, Int32.reduceSub, Int32.reduceMul, Bool.or_true, Bool.true_or, Bool.or_false, Bool.false_or, Nat.reduceBEq, Nat.reduceMul, p_isWithin, if_neg hv, k1, hH, hK, e1, ek, j1, jH, hq]
theorem c_slack2 (v : Int32) (hv : ¬ bw v 0 9 = 0) : cDo 62 a [.int v] σ (σ.1 2) (chg σ (some (upd σ.1 2 v))) := by
  intro h hC
  obtain ⟨m1, ek, gH, gf⟩ := c_keep hC
  have hC0 := hC
  obtain ⟨k1, k2, k3, k4, k5, k6, k7, k8⟩ := hC; unfold CO at k1; obtain ⟨S, q, ri, tr, ft, hA, hR⟩ := k2; have hH := hA.1; have h5 := hA.2.2.1; have h6 := hA.2.2.2; unfold CA at h5 h6; obtain ⟨kv1, kv2, hK⟩ := k4.kk
  have j1 := (gf a (by omega)).trans k1; have jA := hA.frame (m' := m1) (fun x g1 g2 => gf x (by omega)); have jH := jA.1; have j5 := jA.2.2.1; have j6 := jA.2.2.2; unfold CA at j5 j6
  have hw := jA.w0 (q' := upd q 2 v) (fun i hi => upd_n _ _ (by omega))
  have hm := hC0.ch (m' := mu m1 (a + 1) (.inr (2, [.int (q 0), .int (q 1), .int v, .ref (a + 1 + 1), .ref (a + 1 + 5), .ref (a + 1 + 6)]))) (r' := upd σ.1 2 v) (L' := pushH σ.2.1 σ.1) ⟨S, _, _, _, _, hw, hR.up v (by decide) (by decide)⟩ (gH.fr (fun x q1 q2 => mu_n _ _ (by omega))) (fun x q1 q2 => by rw [mu_n _ _ (by omega)]; exact gf x q2)
  refine ⟨_, ?_, hm.1, hm.2⟩
  have hq := hR.i2
  simp only [c62, q62_0, q62_1, q62_2, q62_4, q62_7, q62_10, q62_12, q62_13, q62_14, q62_17, q62_18, q62_21, q62_24, q62_25, q62_28, q62_31, q62_32, q62_33, q62_36, q62_37, q62_40, q62_41, rv_v, rv_n, rh_v, mu_at, isF_r, isK_r, fld_r, fset_r, gd0, gd1, gd2, gd3, gd4, gd5, gd6, gd7, gd8, gd9, gd10, gd11, gd12, gd13, inA_l, inW_l, inZ_l, inQ_l, aget_l, aset_l, qget_l, qset_l, isA_l, isA_q, alen_l, k2_i, k2_a, k2_n, k2_u, k2_l, ite_si, Option.isSome_some, List.cons_append, List.nil_append, List.length_cons, List.length_nil, Nat.reduceAdd, Nat.zero_add, Nat.reduceLT, Nat.reduceEqDiff, decide_true, decide_false, Bool.and_self, Bool.and_true, Bool.true_and, ↓reduceIte, List.set_cons_zero, List.set_cons_succ, Nat.reduceSub, Nat.add_left_cancel_iff, Nat.add_eq_left, Nat.left_eq_add, not_true_eq_false, not_false_eq_true, reduceCtorEq, i10, i01, ib10, ib01, beq_self_eq_true, eq_self, Int32.reduceLT, Int32.reduceToNatClampNeg, Int32.reduceAdd, Int32.reduceSub, Int32.reduceMul, Bool.or_true, Bool.true_or, Bool.or_false, Bool.false_or, Nat.reduceBEq, Nat.reduceMul, p_isWithin, if_neg hv, k1, hH, hK, ek, j1, jH, hq]
theorem c_rep1 (v : Int32) (hv : ¬ bw v 2 60 = 0) (hp : (0 < σ.1 47 ∨ 0 < σ.1 52) ∨ ¬ σ.1 44 < v ∨ ¬ σ.1 49 < v) : cDo 60 a [.int v] σ (-5) σ := by
  refine cDo.same fun h hC => ?_
  obtain ⟨k1, k2, k3, k4, k5, k6, k7, k8⟩ := hC; unfold CO at k1; obtain ⟨S, q, ri, tr, ft, hA, hR⟩ := k2; have hH := hA.1; have h5 := hA.2.2.1; have h6 := hA.2.2.2; unfold CA at h5 h6; obtain ⟨kv1, kv2, hK⟩ := k4.kk
  have e1 := p_hasTaken hA
  rw [hR.i7, hR.i12] at e1
  have h4 := hR.i4
  have h9 := hR.i9
  by_cases hz : 0 < σ.1 47
  · rw [if_pos hz] at e1
    simp only [c60, q60_0, q60_1, q60_2, q60_4, q60_7, q60_10, q60_12, q60_13, q60_14, q60_17, q60_20, q60_23, q60_24, q60_27, q60_30, q60_33, q60_34, q60_37, q60_38, q60_41, q60_44, q60_47, q60_48, q60_51, q60_53, q60_54, q60_55, q60_58, q60_59, q60_62, q60_65, q60_66, q60_69, q60_72, q60_73, q60_74, q60_77, q60_78, q60_81, q60_82, rv_v, rv_n, rh_v, mu_at, isF_r, isK_r, fld_r, fset_r, gd0, gd1, gd2, gd3, gd4, gd5, gd6, gd7, gd8, gd9, gd10, gd11, gd12, gd13, inA_l, inW_l, inZ_l, inQ_l, aget_l, aset_l, qget_l, qset_l, isA_l, isA_q, alen_l, k2_i, k2_a, k2_n, k2_u, k2_l, ite_si, Option.isSome_some, List.cons_append, List.nil_append, List.length_cons, List.length_nil, Nat.reduceAdd, Nat.zero_add, Nat.reduceLT, Nat.reduceEqDiff, decide_true, decide_false, Bool.and_self, Bool.and_true, Bool.true_and, ↓reduceIte, List.set_cons_zero, List.set_cons_succ, Nat.reduceSub, Nat.add_left_cancel_iff, Nat.add_eq_left, Nat.left_eq_add, not_true_eq_false, not_false_eq_true, reduceCtorEq, i10, i01, ib10, ib01, beq_self_eq_true, eq_self, Int32.reduceLT, Int32.reduceToNatClampNeg, Int32.reduceAdd, Int32.reduceSub, Int32.reduceMul, Bool.or_true, Bool.true_or, Bool.or_false, Bool.false_or, Nat.reduceBEq, Nat.reduceMul, p_isWithin, if_neg hv, k1, hH, hK, e1]
  · rw [if_neg hz] at e1
    by_cases hw : 0 < σ.1 52
    · rw [if_pos hw] at e1
      simp only [c60, q60_0, q60_1, q60_2, q60_4, q60_7, q60_10, q60_12, q60_13, q60_14, q60_17, q60_20, q60_23, q60_24, q60_27, q60_30, q60_33, q60_34, q60_37, q60_38, q60_41, q60_44, q60_47, q60_48, q60_51, q60_53, q60_54, q60_55, q60_58, q60_59, q60_62, q60_65, q60_66, q60_69, q60_72, q60_73, q60_74, q60_77, q60_78, q60_81, q60_82, rv_v, rv_n, rh_v, mu_at, isF_r, isK_r, fld_r, fset_r, gd0, gd1, gd2, gd3, gd4, gd5, gd6, gd7, gd8, gd9, gd10, gd11, gd12, gd13, inA_l, inW_l, inZ_l, inQ_l, aget_l, aset_l, qget_l, qset_l, isA_l, isA_q, alen_l, k2_i, k2_a, k2_n, k2_u, k2_l, ite_si, Option.isSome_some, List.cons_append, List.nil_append, List.length_cons, List.length_nil, Nat.reduceAdd, Nat.zero_add, Nat.reduceLT, Nat.reduceEqDiff, decide_true, decide_false, Bool.and_self, Bool.and_true, Bool.true_and, ↓reduceIte, List.set_cons_zero, List.set_cons_succ, Nat.reduceSub, Nat.add_left_cancel_iff, Nat.add_eq_left, Nat.left_eq_add, not_true_eq_false, not_false_eq_true, reduceCtorEq, i10, i01, ib10, ib01, beq_self_eq_true, eq_self, Int32.reduceLT, Int32.reduceToNatClampNeg, Int32.reduceAdd, Int32.reduceSub, Int32.reduceMul, Bool.or_true, Bool.true_or, Bool.or_false, Bool.false_or, Nat.reduceBEq, Nat.reduceMul, p_isWithin, if_neg hv, k1, hH, hK, e1]
    · rw [if_neg hw] at e1
      have hp := hp.resolve_left (fun x => x.elim hz hw)
      by_cases hb : σ.1 44 < v
      · have hc := hp.resolve_left (fun x => x hb)
        simp only [c60, q60_0, q60_1, q60_2, q60_4, q60_7, q60_10, q60_12, q60_13, q60_14, q60_17, q60_20, q60_23, q60_24, q60_27, q60_30, q60_33, q60_34, q60_37, q60_38, q60_41, q60_44, q60_47, q60_48, q60_51, q60_53, q60_54, q60_55, q60_58, q60_59, q60_62, q60_65, q60_66, q60_69, q60_72, q60_73, q60_74, q60_77, q60_78, q60_81, q60_82, rv_v, rv_n, rh_v, mu_at, isF_r, isK_r, fld_r, fset_r, gd0, gd1, gd2, gd3, gd4, gd5, gd6, gd7, gd8, gd9, gd10, gd11, gd12, gd13, inA_l, inW_l, inZ_l, inQ_l, aget_l, aset_l, qget_l, qset_l, isA_l, isA_q, alen_l, k2_i, k2_a, k2_n, k2_u, k2_l, ite_si, Option.isSome_some, List.cons_append, List.nil_append, List.length_cons, List.length_nil, Nat.reduceAdd, Nat.zero_add, Nat.reduceLT, Nat.reduceEqDiff, decide_true, decide_false, Bool.and_self, Bool.and_true, Bool.true_and, ↓reduceIte, List.set_cons_zero, List.set_cons_succ, Nat.reduceSub, Nat.add_left_cancel_iff, Nat.add_eq_left, Nat.left_eq_add, not_true_eq_false, not_false_eq_true, reduceCtorEq, i10, i01, ib10, ib01, beq_self_eq_true, eq_self, Int32.reduceLT, Int32.reduceToNatClampNeg, Int32.reduceAdd, Int32.reduceSub, Int32.reduceMul, Bool.or_true, Bool.true_or, Bool.or_false, Bool.false_or, Nat.reduceBEq, Nat.reduceMul, p_isWithin, if_neg hv, k1, hH, hK, e1, h5, h6, h4, h9, if_pos hb, if_neg hc]
      · simp only [c60, q60_0, q60_1, q60_2, q60_4, q60_7, q60_10, q60_12, q60_13, q60_14, q60_17, q60_20, q60_23, q60_24, q60_27, q60_30, q60_33, q60_34, q60_37, q60_38, q60_41, q60_44, q60_47, q60_48, q60_51, q60_53, q60_54, q60_55, q60_58, q60_59, q60_62, q60_65, q60_66, q60_69, q60_72, q60_73, q60_74, q60_77, q60_78, q60_81, q60_82, rv_v, rv_n, rh_v, mu_at, isF_r, isK_r, fld_r, fset_r, gd0, gd1, gd2, gd3, gd4, gd5, gd6, gd7, gd8, gd9, gd10, gd11, gd12, gd13, inA_l, inW_l, inZ_l, inQ_l, aget_l, aset_l, qget_l, qset_l, isA_l, isA_q, alen_l, k2_i, k2_a, k2_n, k2_u, k2_l, ite_si, Option.isSome_some, List.cons_append, List.nil_append, List.length_cons, List.length_nil, Nat.reduceAdd, Nat.zero_add, Nat.reduceLT, Nat.reduceEqDiff, decide_true, decide_false, Bool.and_self, Bool.and_true, Bool.true_and, ↓reduceIte, List.set_cons_zero, List.set_cons_succ, Nat.reduceSub, Nat.add_left_cancel_iff, Nat.add_eq_left, Nat.left_eq_add, not_true_eq_false, not_false_eq_true, reduceCtorEq, i10, i01, ib10, ib01, beq_self_eq_true, eq_self, Int32.reduceLT, Int32.reduceToNatClampNeg, Int32.reduceAdd, Int32.reduceSub, Int32.reduceMul, Bool.or_true, Bool.true_or, Bool.or_false, Bool.false_or, Nat.reduceBEq, Nat.reduceMul, p_isWithin, if_neg hv, k1, hH, hK, e1, h5, h6, h4, h9, if_neg hb]
theorem c_rep2 (v : Int32) (hv : ¬ bw v 2 60 = 0) (hp : ¬ (0 < σ.1 47 ∨ 0 < σ.1 52)) (hb : σ.1 44 < v) (hc : σ.1 49 < v) : cDo 60 a [.int v] σ (σ.1 0) (chg σ (some (upd σ.1 0 v))) := by
  intro h hC
  obtain ⟨m1, ek, gH, gf⟩ := c_keep hC
  have hC0 := hC
  obtain ⟨k1, k2, k3, k4, k5, k6, k7, k8⟩ := hC; unfold CO at k1; obtain ⟨S, q, ri, tr, ft, hA, hR⟩ := k2; have hH := hA.1; have h5 := hA.2.2.1; have h6 := hA.2.2.2; unfold CA at h5 h6; obtain ⟨kv1, kv2, hK⟩ := k4.kk
  have j1 := (gf a (by omega)).trans k1; have jA := hA.frame (m' := m1) (fun x g1 g2 => gf x (by omega)); have jH := jA.1; have j5 := jA.2.2.1; have j6 := jA.2.2.2; unfold CA at j5 j6
  have e1 := p_hasTaken hA
  have e2 : (if 0 < q 7 then (1 : Int32) else if 0 < q 12 then 1 else 0) = 0 := by
    rw [hR.i7, hR.i12, if_neg (fun z => hp (Or.inl z)), if_neg (fun z => hp (Or.inr z))]
  rw [e2] at e1
  have h4 := hR.i4
  have h9 := hR.i9
  have hw := jA.w0 (q' := upd q 0 v) (fun i hi => upd_n _ _ (by omega))
  have hm := hC0.ch (m' := mu m1 (a + 1) (.inr (2, [.int v, .int (q 1), .int (q 2), .ref (a + 1 + 1), .ref (a + 1 + 5), .ref (a + 1 + 6)]))) (r' := upd σ.1 0 v) (L' := pushH σ.2.1 σ.1) ⟨S, _, _, _, _, hw, hR.up v (by decide) (by decide)⟩ (gH.fr (fun x q1 q2 => mu_n _ _ (by omega))) (fun x q1 q2 => by rw [mu_n _ _ (by omega)]; exact gf x q2)
  refine ⟨_, ?_, hm.1, hm.2⟩
  have hq := hR.i0
  simp only [c60, q60_0, q60_1, q60_2, q60_4, q60_7, q60_10, q60_12, q60_13, q60_14, q60_17, q60_20, q60_23, q60_24, q60_27, q60_30, q60_33, q60_34, q60_37, q60_38, q60_41, q60_44, q60_47, q60_48, q60_51, q60_53, q60_54, q60_55, q60_58, q60_59, q60_62, q60_65, q60_66, q60_69, q60_72, q60_73, q60_74, q60_77, q60_78, q60_81, q60_82, rv_v, rv_n, rh_v, mu_at, isF_r, isK_r, fld_r, fset_r, gd0, gd1, gd2, gd3, gd4, gd5, gd6, gd7, gd8, gd9, gd10, gd11, gd12, gd13, inA_l, inW_l, inZ_l, inQ_l, aget_l, aset_l, qget_l, qset_l, isA_l, isA_q, alen_l, k2_i, k2_a, k2_n, k2_u, k2_l, ite_si, Option.isSome_some, List.cons_append, List.nil_append, List.length_cons, List.length_nil, Nat.reduceAdd, Nat.zero_add, Nat.reduceLT, Nat.reduceEqDiff, decide_true, decide_false, Bool.and_self, Bool.and_true, Bool.true_and, ↓reduceIte, List.set_cons_zero, List.set_cons_succ, Nat.reduceSub, Nat.add_left_cancel_iff, Nat.add_eq_left, Nat.left_eq_add, not_true_eq_false, not_false_eq_true, reduceCtorEq, i10, i01, ib10, ib01, beq_self_eq_true, eq_self, Int32.reduceLT, Int32.reduceToNatClampNeg, Int32.reduceAdd, Int32.reduceSub, Int32.reduceMul, Bool.or_true, Bool.true_or, Bool.or_false, Bool.false_or, Nat.reduceBEq, Nat.reduceMul, p_isWithin, if_neg hv, k1, hH, hK, h5, h6, h4, h9, if_pos hb, if_pos hc, e1, ek, j1, jH, hq]
/-- set, by the setting -/
theorem c_set (s v : Int32) {x : Int32} {σ' : AS} (h : (s = 0 ∧ cDo 60 a [.int v] σ x σ') ∨ (s = 1 ∧ cDo 61 a [.int v] σ x σ') ∨ (s = 2 ∧ cDo 62 a [.int v] σ x σ')) : cDo 59 a [.int s, .int v] σ x σ' := by
  intro g hC
  have k1 := hC.1
  unfold CO at k1
  have z10 : ((1 : Int32) = 0) = False := by decide
  have z20 : ((2 : Int32) = 0) = False := by decide
  have z21 : ((2 : Int32) = 1) = False := by decide
  rcases h with ⟨rfl, h⟩ | ⟨rfl, h⟩ | ⟨rfl, h⟩
  · obtain ⟨m', e, h1, h2⟩ := h g hC
    refine ⟨m', ?_, h1, h2⟩
    simp only [c59, q59_0, q59_1, q59_28, q59_29, q59_30, q59_33, q59_34, q59_35, q59_36, q59_39, q59_40, q59_41, q59_42, q59_45, q59_46, q59_48, rv_v, rv_n, rh_v, mu_at, isF_r, isK_r, fld_r, fset_r, gd0, gd1, gd2, gd3, gd4, gd5, gd6, gd7, gd8, gd9, gd10, gd11, gd12, gd13, inA_l, inW_l, inZ_l, inQ_l, aget_l, aset_l, qget_l, qset_l, isA_l, isA_q, alen_l, k2_i, k2_a, k2_n, k2_u, k2_l, ite_si, Option.isSome_some, List.cons_append, List.nil_append, List.length_cons, List.length_nil, Nat.reduceAdd, Nat.zero_add, Nat.reduceLT, Nat.reduceEqDiff, decide_true, decide_false, Bool.and_self, Bool.and_true, Bool.true_and, ↓reduceIte, List.set_cons_zero, List.set_cons_succ, Nat.reduceSub, Nat.add_left_cancel_iff, Nat.add_eq_left, Nat.left_eq_add, not_true_eq_false, not_false_eq_true, reduceCtorEq, i10, i01, ib10, ib01, beq_self_eq_true, eq_self, Int32.reduceLT, Int32.reduceToNatClampNeg, Int32.reduceAdd, Int32.reduceSub, Int32.reduceMul, Bool.or_true, Bool.true_or, Bool.or_false, Bool.false_or, Nat.reduceBEq, Nat.reduceMul, k1, e]
  · obtain ⟨m', e, h1, h2⟩ := h g hC
    refine ⟨m', ?_, h1, h2⟩
    simp only [c59, q59_0, q59_1, q59_28, q59_29, q59_30, q59_33, q59_34, q59_35, q59_36, q59_39, q59_40, q59_41, q59_42, q59_45, q59_46, q59_48, rv_v, rv_n, rh_v, mu_at, isF_r, isK_r, fld_r, fset_r, gd0, gd1, gd2, gd3, gd4, gd5, gd6, gd7, gd8, gd9, gd10, gd11, gd12, gd13, inA_l, inW_l, inZ_l, inQ_l, aget_l, aset_l, qget_l, qset_l, isA_l, isA_q, alen_l, k2_i, k2_a, k2_n, k2_u, k2_l, ite_si, Option.isSome_some, List.cons_append, List.nil_append, List.length_cons, List.length_nil, Nat.reduceAdd, Nat.zero_add, Nat.reduceLT, Nat.reduceEqDiff, decide_true, decide_false, Bool.and_self, Bool.and_true, Bool.true_and, ↓reduceIte, List.set_cons_zero, List.set_cons_succ, Nat.reduceSub, Nat.add_left_cancel_iff, Nat.add_eq_left, Nat.left_eq_add, not_true_eq_false, not_false_eq_true, reduceCtorEq, i10, i01, ib10, ib01, beq_self_eq_true, eq_self, Int32.reduceLT, Int32.reduceToNatClampNeg, Int32.reduceAdd, Int32.reduceSub, Int32.reduceMul, Bool.or_true, Bool.true_or, Bool.or_false, Bool.false_or, Nat.reduceBEq, Nat.reduceMul, k1, z10, e]
  · obtain ⟨m', e, h1, h2⟩ := h g hC
    refine ⟨m', ?_, h1, h2⟩
    simp only [c59, q59_0, q59_1, q59_28, q59_29, q59_30, q59_33, q59_34, q59_35, q59_36, q59_39, q59_40, q59_41, q59_42, q59_45, q59_46, q59_48, rv_v, rv_n, rh_v, mu_at, isF_r, isK_r, fld_r, fset_r, gd0, gd1, gd2, gd3, gd4, gd5, gd6, gd7, gd8, gd9, gd10, gd11, gd12, gd13, inA_l, inW_l, inZ_l, inQ_l, aget_l, aset_l, qget_l, qset_l, isA_l, isA_q, alen_l, k2_i, k2_a, k2_n, k2_u, k2_l, ite_si, Option.isSome_some, List.cons_append, List.nil_append, List.length_cons, List.length_nil, Nat.reduceAdd, Nat.zero_add, Nat.reduceLT, Nat.reduceEqDiff, decide_true, decide_false, Bool.and_self, Bool.and_true, Bool.true_and, ↓reduceIte, List.set_cons_zero, List.set_cons_succ, Nat.reduceSub, Nat.add_left_cancel_iff, Nat.add_eq_left, Nat.left_eq_add, not_true_eq_false, not_false_eq_true, reduceCtorEq, i10, i01, ib10, ib01, beq_self_eq_true, eq_self, Int32.reduceLT, Int32.reduceToNatClampNeg, Int32.reduceAdd, Int32.reduceSub, Int32.reduceMul, Bool.or_true, Bool.true_or, Bool.or_false, Bool.false_or, Nat.reduceBEq, Nat.reduceMul, k1, z20, z21, e]
theorem c_set0 (s v : Int32) (h : msv s v = 0) : cDo 59 a [.int s, .int v] σ (-2) σ := by
  unfold msv at h
  by_cases h0 : s = 0
  · rw [if_pos h0] at h
    exact c_set s v (Or.inl ⟨h0, (c_sets0 v).1 h⟩)
  · rw [if_neg h0] at h
    by_cases h1 : s = 1
    · rw [if_pos h1] at h
      exact c_set s v (Or.inr (Or.inl ⟨h1, (c_sets0 v).2.1 h⟩))
    · rw [if_neg h1] at h
      by_cases h2 : s = 2
      · rw [if_pos h2] at h
        have hb : bw v 0 9 = 0 := Classical.byContradiction fun z => by rw [if_neg z] at h; exact absurd h (by decide)
        exact c_set s v (Or.inr (Or.inr ⟨h2, (c_sets0 v).2.2 hb⟩))
      · refine cDo.same fun g hC => ?_
        simp only [c59, q59_0, q59_1, q59_28, q59_29, q59_30, q59_33, q59_34, q59_35, q59_36, q59_39, q59_40, q59_41, q59_42, q59_45, q59_46, q59_48, rv_v, rv_n, rh_v, mu_at, isF_r, isK_r, fld_r, fset_r, gd0, gd1, gd2, gd3, gd4, gd5, gd6, gd7, gd8, gd9, gd10, gd11, gd12, gd13, inA_l, inW_l, inZ_l, inQ_l, aget_l, aset_l, qget_l, qset_l, isA_l, isA_q, alen_l, k2_i, k2_a, k2_n, k2_u, k2_l, ite_si, Option.isSome_some, List.cons_append, List.nil_append, List.length_cons, List.length_nil, Nat.reduceAdd, Nat.zero_add, Nat.reduceLT, Nat.reduceEqDiff, decide_true, decide_false, Bool.and_self, Bool.and_true, Bool.true_and, ↓reduceIte, List.set_cons_zero, List.set_cons_succ, Nat.reduceSub, Nat.add_left_cancel_iff, Nat.add_eq_left, Nat.left_eq_add, not_true_eq_false, not_false_eq_true, reduceCtorEq, i10, i01, ib10, ib01, beq_self_eq_true, eq_self, Int32.reduceLT, Int32.reduceToNatClampNeg, Int32.reduceAdd, Int32.reduceSub, Int32.reduceMul, Bool.or_true, Bool.true_or, Bool.or_false, Bool.false_or, Nat.reduceBEq, Nat.reduceMul, h0, h1, h2]
end
