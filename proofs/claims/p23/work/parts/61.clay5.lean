section
variable {a k : Nat} {σ : AS}
theorem c_lay0 (c : Int32) (hc : bw c 0 1 = 0) : cDo 55 a [.int c] σ (-1) σ := by
  refine cDo.same fun h hC => ?_
  obtain ⟨k1, k2, k3, k4, k5, k6, k7, k8⟩ := hC; unfold CO at k1; obtain ⟨S', q, ri, tr, ft, hA, hR⟩ := k2; have hH := hA.1; have h5 := hA.2.2.1; have h6 := hA.2.2.2; unfold CA at h5 h6; obtain ⟨kv1, kv2, hK⟩ := k4.kk
  have ec := p_crewOf c hA
  rw [if_neg (bw_no hc).1, if_neg (bw_no hc).2] at ec
  simp only [c55, q55_0, q55_1, q55_4, q55_5, q55_8, q55_8N, q55_9, q55_9N, q55_10, q55_10N, q55_13, q55_14, q55_15, q55_16, q55_19, q55_19N, q55_20, q55_23, q55_26, q55_28, q55_29, q55_30, q55_33, q55_34, q55_37, q55_40, q55_41, q55_44, q55_44N, q55_45, q55_48, q55_49, q55_50, q55_53, q55_53N, q55_54, q55_57, q55_58, q55_61, q55_62, q55_65, rv_v, rv_n, rh_v, mu_at, isF_r, isK_r, fld_r, fset_r, gd0, gd1, gd2, gd3, gd4, gd5, gd6, gd7, gd8, gd9, gd10, gd11, gd12, gd13, inA_l, inW_l, inZ_l, inQ_l, aget_l, aset_l, qget_l, qset_l, isA_l, isA_q, alen_l, k2_i, k2_a, k2_n, k2_u, k2_l, ite_si, Option.isSome_some, List.cons_append, List.nil_append, List.length_cons, List.length_nil, Nat.reduceAdd, Nat.zero_add, Nat.reduceLT, Nat.reduceEqDiff, decide_true, decide_false, Bool.and_self, Bool.and_true, Bool.true_and, ↓reduceIte, List.set_cons_zero, List.set_cons_succ, Nat.reduceSub, Nat.add_left_cancel_iff, Nat.add_eq_left, Nat.left_eq_add, not_true_eq_false, not_false_eq_true, reduceCtorEq, i10, i01, ib10, ib01, beq_self_eq_true, eq_self, Int32.reduceLT, Int32.reduceToNatClampNeg, Int32.reduceAdd, Int32.reduceSub, Int32.reduceMul, Bool.or_true, Bool.true_or, Bool.or_false, Bool.false_or, Nat.reduceBEq, Nat.reduceMul, k1, hH, ec]
theorem c_lay1 (c : Int32) (hc : ¬ bw c 0 1 = 0) (hl : σ.1 45 + σ.1 50 = σ.1 3) : cDo 55 a [.int c] σ (-5) σ := by
  refine cDo.same fun h hC => ?_
  obtain ⟨k1, k2, k3, k4, k5, k6, k7, k8⟩ := hC; unfold CO at k1; obtain ⟨S', q, ri, tr, ft, hA, hR⟩ := k2; have hH := hA.1; have h5 := hA.2.2.1; have h6 := hA.2.2.2; unfold CA at h5 h6; obtain ⟨kv1, kv2, hK⟩ := k4.kk
  have hn : ¬ q 5 + q 10 < q 3 := by rw [hR.i5, hR.i10, hR.i3, ← hR.2.1, hl]; exact Int32.lt_irrefl
  rcases bw01 hc with rfl | rfl
  · have ec := p_crewOf 0 hA; rw [if_pos rfl] at ec
    have e1 := p_canLay0 hA
    rw [show cL0 q ri tr ft = 0 from by unfold cL0 nS0; rw [if_neg hn, if_pos rfl]] at e1
    simp only [c55, q55_0, q55_1, q55_4, q55_5, q55_8, q55_8N, q55_9, q55_9N, q55_10, q55_10N, q55_13, q55_14, q55_15, q55_16, q55_19, q55_19N, q55_20, q55_23, q55_26, q55_28, q55_29, q55_30, q55_33, q55_34, q55_37, q55_40, q55_41, q55_44, q55_44N, q55_45, q55_48, q55_49, q55_50, q55_53, q55_53N, q55_54, q55_57, q55_58, q55_61, q55_62, q55_65, rv_v, rv_n, rh_v, mu_at, isF_r, isK_r, fld_r, fset_r, gd0, gd1, gd2, gd3, gd4, gd5, gd6, gd7, gd8, gd9, gd10, gd11, gd12, gd13, inA_l, inW_l, inZ_l, inQ_l, aget_l, aset_l, qget_l, qset_l, isA_l, isA_q, alen_l, k2_i, k2_a, k2_n, k2_u, k2_l, ite_si, Option.isSome_some, List.cons_append, List.nil_append, List.length_cons, List.length_nil, Nat.reduceAdd, Nat.zero_add, Nat.reduceLT, Nat.reduceEqDiff, decide_true, decide_false, Bool.and_self, Bool.and_true, Bool.true_and, ↓reduceIte, List.set_cons_zero, List.set_cons_succ, Nat.reduceSub, Nat.add_left_cancel_iff, Nat.add_eq_left, Nat.left_eq_add, not_true_eq_false, not_false_eq_true, reduceCtorEq, i10, i01, ib10, ib01, beq_self_eq_true, eq_self, Int32.reduceLT, Int32.reduceToNatClampNeg, Int32.reduceAdd, Int32.reduceSub, Int32.reduceMul, Bool.or_true, Bool.true_or, Bool.or_false, Bool.false_or, Nat.reduceBEq, Nat.reduceMul, k1, hH, ec, e1]
  · have ec := p_crewOf 1 hA; rw [if_neg (by decide), if_pos rfl] at ec
    have e1 := p_canLay1 hA
    rw [show cL1 q ri tr ft = 0 from by unfold cL1 nS1; rw [if_neg hn, if_pos rfl]] at e1
    simp only [c55, q55_0, q55_1, q55_4, q55_5, q55_8, q55_8N, q55_9, q55_9N, q55_10, q55_10N, q55_13, q55_14, q55_15, q55_16, q55_19, q55_19N, q55_20, q55_23, q55_26, q55_28, q55_29, q55_30, q55_33, q55_34, q55_37, q55_40, q55_41, q55_44, q55_44N, q55_45, q55_48, q55_49, q55_50, q55_53, q55_53N, q55_54, q55_57, q55_58, q55_61, q55_62, q55_65, rv_v, rv_n, rh_v, mu_at, isF_r, isK_r, fld_r, fset_r, gd0, gd1, gd2, gd3, gd4, gd5, gd6, gd7, gd8, gd9, gd10, gd11, gd12, gd13, inA_l, inW_l, inZ_l, inQ_l, aget_l, aset_l, qget_l, qset_l, isA_l, isA_q, alen_l, k2_i, k2_a, k2_n, k2_u, k2_l, ite_si, Option.isSome_some, List.cons_append, List.nil_append, List.length_cons, List.length_nil, Nat.reduceAdd, Nat.zero_add, Nat.reduceLT, Nat.reduceEqDiff, decide_true, decide_false, Bool.and_self, Bool.and_true, Bool.true_and, ↓reduceIte, List.set_cons_zero, List.set_cons_succ, Nat.reduceSub, Nat.add_left_cancel_iff, Nat.add_eq_left, Nat.left_eq_add, not_true_eq_false, not_false_eq_true, reduceCtorEq, i10, i01, ib10, ib01, beq_self_eq_true, eq_self, Int32.reduceLT, Int32.reduceToNatClampNeg, Int32.reduceAdd, Int32.reduceSub, Int32.reduceMul, Bool.or_true, Bool.true_or, Bool.or_false, Bool.false_or, Nat.reduceBEq, Nat.reduceMul, k1, hH, ec, e1]
theorem c_lay20 {S u : Nat} (hI : RI k σ.1) (hk : k < 1000) (hu : σ.1 45 = nI u) (h3 : σ.1 3 = nI S) (hS : S ≤ 20) (huS : u < S) (hl : ¬ σ.1 45 + σ.1 50 = σ.1 3) (hn : lay0 σ.1 u = none) : cDo 55 a [.int 0] σ (-5) σ := by
  refine cDo.same fun h hC => ?_
  obtain ⟨k1, k2, k3, k4, k5, k6, k7, k8⟩ := hC; unfold CO at k1; obtain ⟨S', q, ri, tr, ft, hA, hR⟩ := k2; have hH := hA.1; have h5 := hA.2.2.1; have h6 := hA.2.2.2; unfold CA at h5 h6; obtain ⟨kv1, kv2, hK⟩ := k4.kk
  obtain rfl : S = S' := (nI_eq (by omega) (by have := hR.1; omega)).mp (h3.symm.trans hR.2.1)
  have ec := p_crewOf 0 hA; rw [if_pos rfl] at ec
  have e1 := p_canLay0 hA
  rw [CL0 hR hI hk (hI.lt hl) hu huS, hn, show oI none = 0 from rfl] at e1
  simp only [c55, q55_0, q55_1, q55_4, q55_5, q55_8, q55_8N, q55_9, q55_9N, q55_10, q55_10N, q55_13, q55_14, q55_15, q55_16, q55_19, q55_19N, q55_20, q55_23, q55_26, q55_28, q55_29, q55_30, q55_33, q55_34, q55_37, q55_40, q55_41, q55_44, q55_44N, q55_45, q55_48, q55_49, q55_50, q55_53, q55_53N, q55_54, q55_57, q55_58, q55_61, q55_62, q55_65, rv_v, rv_n, rh_v, mu_at, isF_r, isK_r, fld_r, fset_r, gd0, gd1, gd2, gd3, gd4, gd5, gd6, gd7, gd8, gd9, gd10, gd11, gd12, gd13, inA_l, inW_l, inZ_l, inQ_l, aget_l, aset_l, qget_l, qset_l, isA_l, isA_q, alen_l, k2_i, k2_a, k2_n, k2_u, k2_l, ite_si, Option.isSome_some, List.cons_append, List.nil_append, List.length_cons, List.length_nil, Nat.reduceAdd, Nat.zero_add, Nat.reduceLT, Nat.reduceEqDiff, decide_true, decide_false, Bool.and_self, Bool.and_true, Bool.true_and, ↓reduceIte, List.set_cons_zero, List.set_cons_succ, Nat.reduceSub, Nat.add_left_cancel_iff, Nat.add_eq_left, Nat.left_eq_add, not_true_eq_false, not_false_eq_true, reduceCtorEq, i10, i01, ib10, ib01, beq_self_eq_true, eq_self, Int32.reduceLT, Int32.reduceToNatClampNeg, Int32.reduceAdd, Int32.reduceSub, Int32.reduceMul, Bool.or_true, Bool.true_or, Bool.or_false, Bool.false_or, Nat.reduceBEq, Nat.reduceMul, k1, hH, ec, e1]
theorem c_lay21 {S u : Nat} (hI : RI k σ.1) (hk : k < 1000) (hu : σ.1 50 = nI u) (h3 : σ.1 3 = nI S) (hS : S ≤ 20) (huS : u < S) (hl : ¬ σ.1 45 + σ.1 50 = σ.1 3) (hn : lay1 σ.1 S (S - 1 - u) = none) : cDo 55 a [.int 1] σ (-5) σ := by
  refine cDo.same fun h hC => ?_
  obtain ⟨k1, k2, k3, k4, k5, k6, k7, k8⟩ := hC; unfold CO at k1; obtain ⟨S', q, ri, tr, ft, hA, hR⟩ := k2; have hH := hA.1; have h5 := hA.2.2.1; have h6 := hA.2.2.2; unfold CA at h5 h6; obtain ⟨kv1, kv2, hK⟩ := k4.kk
  obtain rfl : S = S' := (nI_eq (by omega) (by have := hR.1; omega)).mp (h3.symm.trans hR.2.1)
  have ec := p_crewOf 1 hA; rw [if_neg (by decide), if_pos rfl] at ec
  have e1 := p_canLay1 hA
  rw [CL1 hR hI hk (hI.lt hl) hu huS, hn, show oI none = 0 from rfl] at e1
  simp only [c55, q55_0, q55_1, q55_4, q55_5, q55_8, q55_8N, q55_9, q55_9N, q55_10, q55_10N, q55_13, q55_14, q55_15, q55_16, q55_19, q55_19N, q55_20, q55_23, q55_26, q55_28, q55_29, q55_30, q55_33, q55_34, q55_37, q55_40, q55_41, q55_44, q55_44N, q55_45, q55_48, q55_49, q55_50, q55_53, q55_53N, q55_54, q55_57, q55_58, q55_61, q55_62, q55_65, rv_v, rv_n, rh_v, mu_at, isF_r, isK_r, fld_r, fset_r, gd0, gd1, gd2, gd3, gd4, gd5, gd6, gd7, gd8, gd9, gd10, gd11, gd12, gd13, inA_l, inW_l, inZ_l, inQ_l, aget_l, aset_l, qget_l, qset_l, isA_l, isA_q, alen_l, k2_i, k2_a, k2_n, k2_u, k2_l, ite_si, Option.isSome_some, List.cons_append, List.nil_append, List.length_cons, List.length_nil, Nat.reduceAdd, Nat.zero_add, Nat.reduceLT, Nat.reduceEqDiff, decide_true, decide_false, Bool.and_self, Bool.and_true, Bool.true_and, ↓reduceIte, List.set_cons_zero, List.set_cons_succ, Nat.reduceSub, Nat.add_left_cancel_iff, Nat.add_eq_left, Nat.left_eq_add, not_true_eq_false, not_false_eq_true, reduceCtorEq, i10, i01, ib10, ib01, beq_self_eq_true, eq_self, Int32.reduceLT, Int32.reduceToNatClampNeg, Int32.reduceAdd, Int32.reduceSub, Int32.reduceMul, Bool.or_true, Bool.true_or, Bool.or_false, Bool.false_or, Nat.reduceBEq, Nat.reduceMul, k1, hH, ec, e1]
theorem c_lay30 {S u : Nat} {r' : Row} (hI : RI k σ.1) (hk : k < 1000) (hu : σ.1 45 = nI u) (h3 : σ.1 3 = nI S) (hS : S ≤ 20) (huS : u < S) (hl : ¬ σ.1 45 + σ.1 50 = σ.1 3) (hn : lay0 σ.1 u = some r') : cDo 55 a [.int 0] σ (mP r' S u) (chg σ (some r')) := by
  intro h hC
  obtain ⟨m1, ek, gH, gf⟩ := c_keep hC
  have hC0 := hC
  obtain ⟨k1, k2, k3, k4, k5, k6, k7, k8⟩ := hC; unfold CO at k1; obtain ⟨S', q, ri, tr, ft, hA, hR⟩ := k2; have hH := hA.1; have h5 := hA.2.2.1; have h6 := hA.2.2.2; unfold CA at h5 h6; obtain ⟨kv1, kv2, hK⟩ := k4.kk
  have j1 := (gf a (by omega)).trans k1; have jA := hA.frame (m' := m1) (fun x g1 g2 => gf x (by omega)); have jH := jA.1; have j5 := jA.2.2.1; have j6 := jA.2.2.2; unfold CA at j5 j6
  obtain rfl : S = S' := (nI_eq (by omega) (by have := hR.1; omega)).mp (h3.symm.trans hR.2.1)
  have ec := p_crewOf 0 hA; rw [if_pos rfl] at ec
  have hlt := hI.lt hl
  have e1 := p_canLay0 hA
  rw [CL0 hR hI hk hlt hu huS, hn, show oI (some r') = 1 from rfl] at e1
  have e2 := p_nextStep0 (h := (h.1, m1)) jA
  rw [hR.n0 hlt hu] at e2
  have e3 := p_layNext0 (h := (h.1, m1)) jA
  obtain ⟨q', gA, gR, g5⟩ := LAY0 jA hR hI hk hlt hu huS hn
  have e4 := p_phaseOf (h := (h.1, mu m1 (a + 1 + 5) (.inr (0, lN0 q ri tr ft)))) (nI u) gA
  have ep : pO q' ft (nI u) = mP r' S u := by
    have c1 : nI u < nI (u + 1) := nI_lt (by omega) (by omega)
    unfold pO mP
    rw [g5, ← gR.i5, g5, if_pos c1, if_pos c1, gR.hB (by omega)]
  rw [ep] at e4
  have gH2 := gA.1
  have hm := hC0.ch (m' := mu m1 (a + 1 + 5) (.inr (0, lN0 q ri tr ft))) (r' := r') (L' := pushH σ.2.1 σ.1) ⟨S, _, _, _, _, gA, gR⟩ (gH.fr (fun x q1 q2 => mu_n _ _ (by omega))) (fun x q1 q2 => by rw [mu_n _ _ (by omega)]; exact gf x q2)
  refine ⟨_, ?_, hm.1, hm.2⟩
  have j1' : mu m1 (a + 1 + 5) (.inr (0, lN0 q ri tr ft)) a = _ := (mu_n m1 _ (by omega)).trans j1
  have jH' : mu m1 (a + 1 + 5) (.inr (0, lN0 q ri tr ft)) (a + 1) = _ := gH2
  generalize mu m1 (a + 1 + 5) (.inr (0, lN0 q ri tr ft)) = m2 at *
  simp only [c55, q55_0, q55_1, q55_4, q55_5, q55_8, q55_8N, q55_9, q55_9N, q55_10, q55_10N, q55_13, q55_14, q55_15, q55_16, q55_19, q55_19N, q55_20, q55_23, q55_26, q55_28, q55_29, q55_30, q55_33, q55_34, q55_37, q55_40, q55_41, q55_44, q55_44N, q55_45, q55_48, q55_49, q55_50, q55_53, q55_53N, q55_54, q55_57, q55_58, q55_61, q55_62, q55_65, rv_v, rv_n, rh_v, mu_at, isF_r, isK_r, fld_r, fset_r, gd0, gd1, gd2, gd3, gd4, gd5, gd6, gd7, gd8, gd9, gd10, gd11, gd12, gd13, inA_l, inW_l, inZ_l, inQ_l, aget_l, aset_l, qget_l, qset_l, isA_l, isA_q, alen_l, k2_i, k2_a, k2_n, k2_u, k2_l, ite_si, Option.isSome_some, List.cons_append, List.nil_append, List.length_cons, List.length_nil, Nat.reduceAdd, Nat.zero_add, Nat.reduceLT, Nat.reduceEqDiff, decide_true, decide_false, Bool.and_self, Bool.and_true, Bool.true_and, ↓reduceIte, List.set_cons_zero, List.set_cons_succ, Nat.reduceSub, Nat.add_left_cancel_iff, Nat.add_eq_left, Nat.left_eq_add, not_true_eq_false, not_false_eq_true, reduceCtorEq, i10, i01, ib10, ib01, beq_self_eq_true, eq_self, Int32.reduceLT, Int32.reduceToNatClampNeg, Int32.reduceAdd, Int32.reduceSub, Int32.reduceMul, Bool.or_true, Bool.true_or, Bool.or_false, Bool.false_or, Nat.reduceBEq, Nat.reduceMul, k1, hH, hK, ec, e1, ek, j1, jH, e2, e3, j1', jH', e4]
theorem c_lay31 {S u : Nat} {r' : Row} (hI : RI k σ.1) (hk : k < 1000) (hu : σ.1 50 = nI u) (h3 : σ.1 3 = nI S) (hS : S ≤ 20) (huS : u < S) (hl : ¬ σ.1 45 + σ.1 50 = σ.1 3) (hn : lay1 σ.1 S (S - 1 - u) = some r') : cDo 55 a [.int 1] σ (mP r' S (S - 1 - u)) (chg σ (some r')) := by
  intro h hC
  obtain ⟨m1, ek, gH, gf⟩ := c_keep hC
  have hC0 := hC
  obtain ⟨k1, k2, k3, k4, k5, k6, k7, k8⟩ := hC; unfold CO at k1; obtain ⟨S', q, ri, tr, ft, hA, hR⟩ := k2; have hH := hA.1; have h5 := hA.2.2.1; have h6 := hA.2.2.2; unfold CA at h5 h6; obtain ⟨kv1, kv2, hK⟩ := k4.kk
  have j1 := (gf a (by omega)).trans k1; have jA := hA.frame (m' := m1) (fun x g1 g2 => gf x (by omega)); have jH := jA.1; have j5 := jA.2.2.1; have j6 := jA.2.2.2; unfold CA at j5 j6
  obtain rfl : S = S' := (nI_eq (by omega) (by have := hR.1; omega)).mp (h3.symm.trans hR.2.1)
  have ec := p_crewOf 1 hA; rw [if_neg (by decide), if_pos rfl] at ec
  have hlt := hI.lt hl
  have e1 := p_canLay1 hA
  rw [CL1 hR hI hk hlt hu huS, hn, show oI (some r') = 1 from rfl] at e1
  have e2 := p_nextStep1 (h := (h.1, m1)) jA
  rw [hR.n1 hlt hu huS] at e2
  have e3 := p_layNext1 (h := (h.1, m1)) jA
  obtain ⟨q', gA, gR, g10, g5⟩ := LAY1 jA hR hI hk hlt hu huS hn
  have e4 := p_phaseOf (h := (h.1, mu m1 (a + 1 + 6) (.inr (0, lN1 q ri tr ft)))) (nI (S - 1 - u)) gA
  have ep : pO q' ft (nI (S - 1 - u)) = mP r' S (S - 1 - u) := by
    have c1 : ¬ nI (S - 1 - u) < q' 5 := by
      obtain ⟨S', u0, u1, p0, p1, R, O, b0, b1, l0, l1, sl, ⟨e1, e2, e3, -⟩, ⟨f1, f2, -⟩, -⟩ := hI
      have hs : S = S' := (nI_eq (by omega) (by omega)).mp (h3.symm.trans e1)
      have hu1 : u = u1 := (nI_eq (by omega) (by omega)).mp (hu.symm.trans e3)
      have : ¬ u0 + u1 = S' := fun q => hl (by rw [e1, e2, e3, ← q]; exact nI_add _ _)
      rw [g5, hR.i5, e2]
      exact nI_nlt (by omega) (by omega)
    have c2 : ¬ nI (S - 1 - u) < r' 3 - r' 50 := by
      rw [gR.2.1, ← gR.i10, g10, pk_sub (by omega)]
      exact nI_nlt (by omega) (by omega)
    unfold pO mP
    rw [if_neg c1, ← gR.i5, if_neg c1, if_neg c2, gR.hA (by omega)]
  rw [ep] at e4
  have gH2 := gA.1
  have hm := hC0.ch (m' := mu m1 (a + 1 + 6) (.inr (0, lN1 q ri tr ft))) (r' := r') (L' := pushH σ.2.1 σ.1) ⟨S, _, _, _, _, gA, gR⟩ (gH.fr (fun x q1 q2 => mu_n _ _ (by omega))) (fun x q1 q2 => by rw [mu_n _ _ (by omega)]; exact gf x q2)
  refine ⟨_, ?_, hm.1, hm.2⟩
  have j1' : mu m1 (a + 1 + 6) (.inr (0, lN1 q ri tr ft)) a = _ := (mu_n m1 _ (by omega)).trans j1
  have jH' : mu m1 (a + 1 + 6) (.inr (0, lN1 q ri tr ft)) (a + 1) = _ := gH2
  generalize mu m1 (a + 1 + 6) (.inr (0, lN1 q ri tr ft)) = m2 at *
  simp only [c55, q55_0, q55_1, q55_4, q55_5, q55_8, q55_8N, q55_9, q55_9N, q55_10, q55_10N, q55_13, q55_14, q55_15, q55_16, q55_19, q55_19N, q55_20, q55_23, q55_26, q55_28, q55_29, q55_30, q55_33, q55_34, q55_37, q55_40, q55_41, q55_44, q55_44N, q55_45, q55_48, q55_49, q55_50, q55_53, q55_53N, q55_54, q55_57, q55_58, q55_61, q55_62, q55_65, rv_v, rv_n, rh_v, mu_at, isF_r, isK_r, fld_r, fset_r, gd0, gd1, gd2, gd3, gd4, gd5, gd6, gd7, gd8, gd9, gd10, gd11, gd12, gd13, inA_l, inW_l, inZ_l, inQ_l, aget_l, aset_l, qget_l, qset_l, isA_l, isA_q, alen_l, k2_i, k2_a, k2_n, k2_u, k2_l, ite_si, Option.isSome_some, List.cons_append, List.nil_append, List.length_cons, List.length_nil, Nat.reduceAdd, Nat.zero_add, Nat.reduceLT, Nat.reduceEqDiff, decide_true, decide_false, Bool.and_self, Bool.and_true, Bool.true_and, ↓reduceIte, List.set_cons_zero, List.set_cons_succ, Nat.reduceSub, Nat.add_left_cancel_iff, Nat.add_eq_left, Nat.left_eq_add, not_true_eq_false, not_false_eq_true, reduceCtorEq, i10, i01, ib10, ib01, beq_self_eq_true, eq_self, Int32.reduceLT, Int32.reduceToNatClampNeg, Int32.reduceAdd, Int32.reduceSub, Int32.reduceMul, Bool.or_true, Bool.true_or, Bool.or_false, Bool.false_or, Nat.reduceBEq, Nat.reduceMul, k1, hH, hK, ec, e1, ek, j1, jH, e2, e3, j1', jH', e4]
end
