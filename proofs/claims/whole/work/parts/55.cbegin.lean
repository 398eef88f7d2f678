theorem bw_no {c : Int32} (h : bw c 0 1 = 0) : ¬ c = 0 ∧ ¬ c = 1 := by
  constructor
  · rintro rfl; exact absurd h (by decide)
  · rintro rfl; exact absurd h (by decide)
section
variable {a k : Nat} {σ : AS}
theorem c_begin0 (c p : Int32) (hc : bw c 0 1 = 0) : cDo 65 a [.int c, .int p] σ (-1) σ := by
  refine cDo.same fun h hC => ?_
  obtain ⟨k1, k2, k3, k4, k5, k6, k7, k8⟩ := hC; unfold CO at k1; obtain ⟨S, q, ri, tr, ft, hA, hR⟩ := k2; have hH := hA.1; have h5 := hA.2.2.1; have h6 := hA.2.2.2; unfold CA at h5 h6; obtain ⟨kv1, kv2, hK⟩ := k4.kk
  have ec := p_crewOf c hA
  rw [if_neg (bw_no hc).1, if_neg (bw_no hc).2] at ec
  simp only [c65, q65_0, q65_1, q65_4, q65_5, q65_8, q65_8N, q65_9, q65_9N, q65_10, q65_10N, q65_13, q65_14, q65_15, q65_16, q65_17, q65_18, q65_21, q65_24, q65_25, q65_26, q65_29, q65_32, q65_34, q65_35, q65_35N, q65_36, q65_39, q65_42, q65_44, q65_45, q65_46, q65_49, q65_50, q65_53, q65_56, q65_56N, q65_57, q65_60, q65_62, q65_62N, q65_63, q65_64, q65_67, q65_69, rv_v, rv_n, rh_v, mu_at, isF_r, isK_r, fld_r, fset_r, gd0, gd1, gd2, gd3, gd4, gd5, gd6, gd7, gd8, gd9, gd10, gd11, gd12, gd13, inA_l, inW_l, inZ_l, inQ_l, aget_l, aset_l, qget_l, qset_l, isA_l, isA_q, alen_l, k2_i, k2_a, k2_n, k2_u, k2_l, ite_si, Option.isSome_some, List.cons_append, List.nil_append, List.length_cons, List.length_nil, Nat.reduceAdd, Nat.zero_add, Nat.reduceLT, Nat.reduceEqDiff, decide_true, decide_false, Bool.and_self, Bool.and_true, Bool.true_and, ↓reduceIte, List.set_cons_zero, List.set_cons_succ, Nat.reduceSub, Nat.add_left_cancel_iff, Nat.add_eq_left, Nat.left_eq_add, not_true_eq_false, not_false_eq_true, reduceCtorEq, i10, i01, ib10, ib01, beq_self_eq_true, eq_self, Int32.reduceLT, Int32.reduceToNatClampNeg, Int32.reduceAdd, Int32.reduceSub, Int32.reduceMul, Bool.or_true, Bool.true_or, Bool.or_false, Bool.false_or, Nat.reduceBEq, Nat.reduceMul, k1, hH, ec]
theorem c_begin1 (c p : Int32) (hc : ¬ bw c 0 1 = 0) (hp : bw p 0 (σ.1 0 - 1) = 0) : cDo 65 a [.int c, .int p] σ (-2) σ := by
  refine cDo.same fun h hC => ?_
  obtain ⟨k1, k2, k3, k4, k5, k6, k7, k8⟩ := hC; unfold CO at k1; obtain ⟨S, q, ri, tr, ft, hA, hR⟩ := k2; have hH := hA.1; have h5 := hA.2.2.1; have h6 := hA.2.2.2; unfold CA at h5 h6; obtain ⟨kv1, kv2, hK⟩ := k4.kk
  have h0 := hR.i0
  rcases bw01 hc with rfl | rfl
  · have ec := p_crewOf 0 hA; rw [if_pos rfl] at ec
    simp only [c65, q65_0, q65_1, q65_4, q65_5, q65_8, q65_8N, q65_9, q65_9N, q65_10, q65_10N, q65_13, q65_14, q65_15, q65_16, q65_17, q65_18, q65_21, q65_24, q65_25, q65_26, q65_29, q65_32, q65_34, q65_35, q65_35N, q65_36, q65_39, q65_42, q65_44, q65_45, q65_46, q65_49, q65_50, q65_53, q65_56, q65_56N, q65_57, q65_60, q65_62, q65_62N, q65_63, q65_64, q65_67, q65_69, rv_v, rv_n, rh_v, mu_at, isF_r, isK_r, fld_r, fset_r, gd0, gd1, gd2, gd3, gd4, gd5, gd6, gd7, gd8, gd9, gd10, gd11, gd12, gd13, inA_l, inW_l, inZ_l, inQ_l, aget_l, aset_l, qget_l, qset_l, isA_l, isA_q, alen_l, k2_i, k2_a, k2_n, k2_u, k2_l, ite_si, Option.isSome_some, List.cons_append, List.nil_append, List.length_cons, List.length_nil, Nat.reduceAdd, Nat.zero_add, Nat.reduceLT, Nat.reduceEqDiff, decide_true, decide_false, Bool.and_self, Bool.and_true, Bool.true_and, ↓reduceIte, List.set_cons_zero, List.set_cons_succ, Nat.reduceSub, Nat.add_left_cancel_iff, Nat.add_eq_left, Nat.left_eq_add, not_true_eq_false, not_false_eq_true, reduceCtorEq, i10, i01, ib10, ib01, beq_self_eq_true, eq_self, Int32.reduceLT, Int32.reduceToNatClampNeg, Int32.reduceAdd, Int32.reduceSub, Int32.reduceMul, Bool.or_true, Bool.true_or, Bool.or_false, Bool.false_or, Nat.reduceBEq, Nat.reduceMul, k1, hH, ec, h0, p_isWithin, if_pos hp]
  · have ec := p_crewOf 1 hA; rw [if_neg (by decide), if_pos rfl] at ec
    simp only [c65, q65_0, q65_1, q65_4, q65_5, q65_8, q65_8N, q65_9, q65_9N, q65_10, q65_10N, q65_13, q65_14, q65_15, q65_16, q65_17, q65_18, q65_21, q65_24, q65_25, q65_26, q65_29, q65_32, q65_34, q65_35, q65_35N, q65_36, q65_39, q65_42, q65_44, q65_45, q65_46, q65_49, q65_50, q65_53, q65_56, q65_56N, q65_57, q65_60, q65_62, q65_62N, q65_63, q65_64, q65_67, q65_69, rv_v, rv_n, rh_v, mu_at, isF_r, isK_r, fld_r, fset_r, gd0, gd1, gd2, gd3, gd4, gd5, gd6, gd7, gd8, gd9, gd10, gd11, gd12, gd13, inA_l, inW_l, inZ_l, inQ_l, aget_l, aset_l, qget_l, qset_l, isA_l, isA_q, alen_l, k2_i, k2_a, k2_n, k2_u, k2_l, ite_si, Option.isSome_some, List.cons_append, List.nil_append, List.length_cons, List.length_nil, Nat.reduceAdd, Nat.zero_add, Nat.reduceLT, Nat.reduceEqDiff, decide_true, decide_false, Bool.and_self, Bool.and_true, Bool.true_and, ↓reduceIte, List.set_cons_zero, List.set_cons_succ, Nat.reduceSub, Nat.add_left_cancel_iff, Nat.add_eq_left, Nat.left_eq_add, not_true_eq_false, not_false_eq_true, reduceCtorEq, i10, i01, ib10, ib01, beq_self_eq_true, eq_self, Int32.reduceLT, Int32.reduceToNatClampNeg, Int32.reduceAdd, Int32.reduceSub, Int32.reduceMul, Bool.or_true, Bool.true_or, Bool.or_false, Bool.false_or, Nat.reduceBEq, Nat.reduceMul, k1, hH, ec, h0, p_isWithin, if_pos hp]
theorem c_begin20 (p : Int32) (hp : ¬ bw p 0 (σ.1 0 - 1) = 0) (hl : 0 < σ.1 45) : cDo 65 a [.int 0, .int p] σ (-5) σ := by
  refine cDo.same fun h hC => ?_
  obtain ⟨k1, k2, k3, k4, k5, k6, k7, k8⟩ := hC; unfold CO at k1; obtain ⟨S, q, ri, tr, ft, hA, hR⟩ := k2; have hH := hA.1; have h5 := hA.2.2.1; have h6 := hA.2.2.2; unfold CA at h5 h6; obtain ⟨kv1, kv2, hK⟩ := k4.kk
  have h0 := hR.i0
  have hq := hR.i5
  have ec := p_crewOf 0 hA; rw [if_pos rfl] at ec
  simp only [c65, q65_0, q65_1, q65_4, q65_5, q65_8, q65_8N, q65_9, q65_9N, q65_10, q65_10N, q65_13, q65_14, q65_15, q65_16, q65_17, q65_18, q65_21, q65_24, q65_25, q65_26, q65_29, q65_32, q65_34, q65_35, q65_35N, q65_36, q65_39, q65_42, q65_44, q65_45, q65_46, q65_49, q65_50, q65_53, q65_56, q65_56N, q65_57, q65_60, q65_62, q65_62N, q65_63, q65_64, q65_67, q65_69, rv_v, rv_n, rh_v, mu_at, isF_r, isK_r, fld_r, fset_r, gd0, gd1, gd2, gd3, gd4, gd5, gd6, gd7, gd8, gd9, gd10, gd11, gd12, gd13, inA_l, inW_l, inZ_l, inQ_l, aget_l, aset_l, qget_l, qset_l, isA_l, isA_q, alen_l, k2_i, k2_a, k2_n, k2_u, k2_l, ite_si, Option.isSome_some, List.cons_append, List.nil_append, List.length_cons, List.length_nil, Nat.reduceAdd, Nat.zero_add, Nat.reduceLT, Nat.reduceEqDiff, decide_true, decide_false, Bool.and_self, Bool.and_true, Bool.true_and, ↓reduceIte, List.set_cons_zero, List.set_cons_succ, Nat.reduceSub, Nat.add_left_cancel_iff, Nat.add_eq_left, Nat.left_eq_add, not_true_eq_false, not_false_eq_true, reduceCtorEq, i10, i01, ib10, ib01, beq_self_eq_true, eq_self, Int32.reduceLT, Int32.reduceToNatClampNeg, Int32.reduceAdd, Int32.reduceSub, Int32.reduceMul, Bool.or_true, Bool.true_or, Bool.or_false, Bool.false_or, Nat.reduceBEq, Nat.reduceMul, k1, hH, h5, ec, h0, hq, p_isWithin, if_neg hp, if_pos hl]
theorem c_begin21 (p : Int32) (hp : ¬ bw p 0 (σ.1 0 - 1) = 0) (hl : 0 < σ.1 50) : cDo 65 a [.int 1, .int p] σ (-5) σ := by
  refine cDo.same fun h hC => ?_
  obtain ⟨k1, k2, k3, k4, k5, k6, k7, k8⟩ := hC; unfold CO at k1; obtain ⟨S, q, ri, tr, ft, hA, hR⟩ := k2; have hH := hA.1; have h5 := hA.2.2.1; have h6 := hA.2.2.2; unfold CA at h5 h6; obtain ⟨kv1, kv2, hK⟩ := k4.kk
  have h0 := hR.i0
  have hq := hR.i10
  have ec := p_crewOf 1 hA; rw [if_neg (by decide), if_pos rfl] at ec
  simp only [c65, q65_0, q65_1, q65_4, q65_5, q65_8, q65_8N, q65_9, q65_9N, q65_10, q65_10N, q65_13, q65_14, q65_15, q65_16, q65_17, q65_18, q65_21, q65_24, q65_25, q65_26, q65_29, q65_32, q65_34, q65_35, q65_35N, q65_36, q65_39, q65_42, q65_44, q65_45, q65_46, q65_49, q65_50, q65_53, q65_56, q65_56N, q65_57, q65_60, q65_62, q65_62N, q65_63, q65_64, q65_67, q65_69, rv_v, rv_n, rh_v, mu_at, isF_r, isK_r, fld_r, fset_r, gd0, gd1, gd2, gd3, gd4, gd5, gd6, gd7, gd8, gd9, gd10, gd11, gd12, gd13, inA_l, inW_l, inZ_l, inQ_l, aget_l, aset_l, qget_l, qset_l, isA_l, isA_q, alen_l, k2_i, k2_a, k2_n, k2_u, k2_l, ite_si, Option.isSome_some, List.cons_append, List.nil_append, List.length_cons, List.length_nil, Nat.reduceAdd, Nat.zero_add, Nat.reduceLT, Nat.reduceEqDiff, decide_true, decide_false, Bool.and_self, Bool.and_true, Bool.true_and, ↓reduceIte, List.set_cons_zero, List.set_cons_succ, Nat.reduceSub, Nat.add_left_cancel_iff, Nat.add_eq_left, Nat.left_eq_add, not_true_eq_false, not_false_eq_true, reduceCtorEq, i10, i01, ib10, ib01, beq_self_eq_true, eq_self, Int32.reduceLT, Int32.reduceToNatClampNeg, Int32.reduceAdd, Int32.reduceSub, Int32.reduceMul, Bool.or_true, Bool.true_or, Bool.or_false, Bool.false_or, Nat.reduceBEq, Nat.reduceMul, k1, hH, h6, ec, h0, hq, p_isWithin, if_neg hp, if_pos hl]
theorem c_begin30 (p : Int32) (hp : ¬ bw p 0 (σ.1 0 - 1) = 0) (hl : ¬ 0 < σ.1 45) : cDo 65 a [.int 0, .int p] σ (σ.1 44) (chg σ (some (upd σ.1 44 p))) := by
  intro h hC
  obtain ⟨m1, ek, gH, gf⟩ := c_keep hC
  have hC0 := hC
  obtain ⟨k1, k2, k3, k4, k5, k6, k7, k8⟩ := hC; unfold CO at k1; obtain ⟨S, q, ri, tr, ft, hA, hR⟩ := k2; have hH := hA.1; have h5 := hA.2.2.1; have h6 := hA.2.2.2; unfold CA at h5 h6; obtain ⟨kv1, kv2, hK⟩ := k4.kk
  have j1 := (gf a (by omega)).trans k1; have jA := hA.frame (m' := m1) (fun x g1 g2 => gf x (by omega)); have jH := jA.1; have j5 := jA.2.2.1; have j6 := jA.2.2.2; unfold CA at j5 j6
  have h0 := hR.i0
  have hq := hR.i5
  have hb := hR.i4
  have ec := p_crewOf 0 hA; rw [if_pos rfl] at ec
  have hw := jA.w5 (q' := upd q 4 p) (fun i hi => upd_n _ _ (by omega))
  have hm := hC0.ch (m' := mu m1 (a + 1 + 5) (.inr (0, [.int 1, .int p, .int (q 5), .int (q 6), .int (q 7), .int (q 8)]))) (r' := upd σ.1 44 p) (L' := pushH σ.2.1 σ.1) ⟨S, _, _, _, _, hw, hR.up p (by decide) (by decide)⟩ (gH.fr (fun x q1 q2 => mu_n _ _ (by omega))) (fun x q1 q2 => by rw [mu_n _ _ (by omega)]; exact gf x q2)
  rw [hq] at h5 j5 hm
  refine ⟨_, ?_, hm.1, hm.2⟩
  simp only [c65, q65_0, q65_1, q65_4, q65_5, q65_8, q65_8N, q65_9, q65_9N, q65_10, q65_10N, q65_13, q65_14, q65_15, q65_16, q65_17, q65_18, q65_21, q65_24, q65_25, q65_26, q65_29, q65_32, q65_34, q65_35, q65_35N, q65_36, q65_39, q65_42, q65_44, q65_45, q65_46, q65_49, q65_50, q65_53, q65_56, q65_56N, q65_57, q65_60, q65_62, q65_62N, q65_63, q65_64, q65_67, q65_69, rv_v, rv_n, rh_v, mu_at, isF_r, isK_r, fld_r, fset_r, gd0, gd1, gd2, gd3, gd4, gd5, gd6, gd7, gd8, gd9, gd10, gd11, gd12, gd13, inA_l, inW_l, inZ_l, inQ_l, aget_l, aset_l, qget_l, qset_l, isA_l, isA_q, alen_l, k2_i, k2_a, k2_n, k2_u, k2_l, ite_si, Option.isSome_some, List.cons_append, List.nil_append, List.length_cons, List.length_nil, Nat.reduceAdd, Nat.zero_add, Nat.reduceLT, Nat.reduceEqDiff, decide_true, decide_false, Bool.and_self, Bool.and_true, Bool.true_and, ↓reduceIte, List.set_cons_zero, List.set_cons_succ, Nat.reduceSub, Nat.add_left_cancel_iff, Nat.add_eq_left, Nat.left_eq_add, not_true_eq_false, not_false_eq_true, reduceCtorEq, i10, i01, ib10, ib01, beq_self_eq_true, eq_self, Int32.reduceLT, Int32.reduceToNatClampNeg, Int32.reduceAdd, Int32.reduceSub, Int32.reduceMul, Bool.or_true, Bool.true_or, Bool.or_false, Bool.false_or, Nat.reduceBEq, Nat.reduceMul, k1, hH, hK, h5, ec, h0, hb, p_isWithin, if_neg hp, if_neg hl, ek, j1, jH, j5]
theorem c_begin31 (p : Int32) (hp : ¬ bw p 0 (σ.1 0 - 1) = 0) (hl : ¬ 0 < σ.1 50) : cDo 65 a [.int 1, .int p] σ (σ.1 49) (chg σ (some (upd σ.1 49 p))) := by
  intro h hC
  obtain ⟨m1, ek, gH, gf⟩ := c_keep hC
  have hC0 := hC
  obtain ⟨k1, k2, k3, k4, k5, k6, k7, k8⟩ := hC; unfold CO at k1; obtain ⟨S, q, ri, tr, ft, hA, hR⟩ := k2; have hH := hA.1; have h5 := hA.2.2.1; have h6 := hA.2.2.2; unfold CA at h5 h6; obtain ⟨kv1, kv2, hK⟩ := k4.kk
  have j1 := (gf a (by omega)).trans k1; have jA := hA.frame (m' := m1) (fun x g1 g2 => gf x (by omega)); have jH := jA.1; have j5 := jA.2.2.1; have j6 := jA.2.2.2; unfold CA at j5 j6
  have h0 := hR.i0
  have hq := hR.i10
  have hb := hR.i9
  have ec := p_crewOf 1 hA; rw [if_neg (by decide), if_pos rfl] at ec
  have hw := jA.w6 (q' := upd q 9 p) (fun i hi => upd_n _ _ (by omega))
  have hm := hC0.ch (m' := mu m1 (a + 1 + 6) (.inr (0, [.int 0, .int p, .int (q 10), .int (q 11), .int (q 12), .int (q 13)]))) (r' := upd σ.1 49 p) (L' := pushH σ.2.1 σ.1) ⟨S, _, _, _, _, hw, hR.up p (by decide) (by decide)⟩ (gH.fr (fun x q1 q2 => mu_n _ _ (by omega))) (fun x q1 q2 => by rw [mu_n _ _ (by omega)]; exact gf x q2)
  rw [hq] at h6 j6 hm
  refine ⟨_, ?_, hm.1, hm.2⟩
  simp only [c65, q65_0, q65_1, q65_4, q65_5, q65_8, q65_8N, q65_9, q65_9N, q65_10, q65_10N, q65_13, q65_14, q65_15, q65_16, q65_17, q65_18, q65_21, q65_24, q65_25, q65_26, q65_29, q65_32, q65_34, q65_35, q65_35N, q65_36, q65_39, q65_42, q65_44, q65_45, q65_46, q65_49, q65_50, q65_53, q65_56, q65_56N, q65_57, q65_60, q65_62, q65_62N, q65_63, q65_64, q65_67, q65_69, rv_v, rv_n, rh_v, mu_at, isF_r, isK_r, fld_r, fset_r, gd0, gd1, gd2, gd3, gd4, gd5, gd6, gd7, gd8, gd9, gd10, gd11, gd12, gd13, inA_l, inW_l, inZ_l, inQ_l, aget_l, aset_l, qget_l, qset_l, isA_l, isA_q, alen_l, k2_i, k2_a, k2_n, k2_u, k2_l, ite_si, Option.isSome_some, List.cons_append, List.nil_append, List.length_cons, List.length_nil, Nat.reduceAdd, Nat.zero_add, Nat.reduceLT, Nat.reduceEqDiff, decide_true, decide_false, Bool.and_self, Bool.and_true, Bool.true_and, ↓reduceIte, List.set_cons_zero, List.set_cons_succ, Nat.reduceSub, Nat.add_left_cancel_iff, Nat.add_eq_left, Nat.left_eq_add, not_true_eq_false, not_false_eq_true, reduceCtorEq, i10, i01, ib10, ib01, beq_self_eq_true, eq_self, Int32.reduceLT, Int32.reduceToNatClampNeg, Int32.reduceAdd, Int32.reduceSub, Int32.reduceMul, Bool.or_true, Bool.true_or, Bool.or_false, Bool.false_or, Nat.reduceBEq, Nat.reduceMul, k1, hH, hK, h6, ec, h0, hb, p_isWithin, if_neg hp, if_neg hl, ek, j1, jH, j6]
theorem c_take0 (c : Int32) (hc : bw c 0 1 = 0) : cDo 67 a [.int c] σ (-1) σ := by
  refine cDo.same fun h hC => ?_
  obtain ⟨k1, k2, k3, k4, k5, k6, k7, k8⟩ := hC; unfold CO at k1; obtain ⟨S, q, ri, tr, ft, hA, hR⟩ := k2; have hH := hA.1; have h5 := hA.2.2.1; have h6 := hA.2.2.2; unfold CA at h5 h6; obtain ⟨kv1, kv2, hK⟩ := k4.kk
  have ec := p_crewOf c hA
  rw [if_neg (bw_no hc).1, if_neg (bw_no hc).2] at ec
  simp only [c67, q67_0, q67_1, q67_4, q67_5, q67_8, q67_8N, q67_9, q67_9N, q67_10, q67_10N, q67_13, q67_14, q67_15, q67_15N, q67_16, q67_19, q67_22, q67_24, q67_25, q67_26, q67_29, q67_30, q67_33, q67_36, q67_37, q67_40, q67_40N, q67_41, q67_44, rv_v, rv_n, rh_v, mu_at, isF_r, isK_r, fld_r, fset_r, gd0, gd1, gd2, gd3, gd4, gd5, gd6, gd7, gd8, gd9, gd10, gd11, gd12, gd13, inA_l, inW_l, inZ_l, inQ_l, aget_l, aset_l, qget_l, qset_l, isA_l, isA_q, alen_l, k2_i, k2_a, k2_n, k2_u, k2_l, ite_si, Option.isSome_some, List.cons_append, List.nil_append, List.length_cons, List.length_nil, Nat.reduceAdd, Nat.zero_add, Nat.reduceLT, Nat.reduceEqDiff, decide_true, decide_false, Bool.and_self, Bool.and_true, Bool.true_and, ↓reduceIte, List.set_cons_zero, List.set_cons_succ, Nat.reduceSub, Nat.add_left_cancel_iff, Nat.add_eq_left, Nat.left_eq_add, not_true_eq_false, not_false_eq_true, reduceCtorEq, i10, i01, ib10, ib01, beq_self_eq_true, eq_self, Int32.reduceLT, Int32.reduceToNatClampNeg, Int32.reduceAdd, Int32.reduceSub, Int32.reduceMul, Bool.or_true, Bool.true_or, Bool.or_false, Bool.false_or, Nat.reduceBEq, Nat.reduceMul, k1, hH, ec]
theorem c_take10 (hl : σ.1 45 = 0) : cDo 67 a [.int 0] σ (-5) σ := by
  refine cDo.same fun h hC => ?_
  obtain ⟨k1, k2, k3, k4, k5, k6, k7, k8⟩ := hC; unfold CO at k1; obtain ⟨S, q, ri, tr, ft, hA, hR⟩ := k2; have hH := hA.1; have h5 := hA.2.2.1; have h6 := hA.2.2.2; unfold CA at h5 h6; obtain ⟨kv1, kv2, hK⟩ := k4.kk
  have hq := hR.i5
  rw [hl] at hq
  have ec := p_crewOf 0 hA; rw [if_pos rfl] at ec
  simp only [c67, q67_0, q67_1, q67_4, q67_5, q67_8, q67_8N, q67_9, q67_9N, q67_10, q67_10N, q67_13, q67_14, q67_15, q67_15N, q67_16, q67_19, q67_22, q67_24, q67_25, q67_26, q67_29, q67_30, q67_33, q67_36, q67_37, q67_40, q67_40N, q67_41, q67_44, rv_v, rv_n, rh_v, mu_at, isF_r, isK_r, fld_r, fset_r, gd0, gd1, gd2, gd3, gd4, gd5, gd6, gd7, gd8, gd9, gd10, gd11, gd12, gd13, inA_l, inW_l, inZ_l, inQ_l, aget_l, aset_l, qget_l, qset_l, isA_l, isA_q, alen_l, k2_i, k2_a, k2_n, k2_u, k2_l, ite_si, Option.isSome_some, List.cons_append, List.nil_append, List.length_cons, List.length_nil, Nat.reduceAdd, Nat.zero_add, Nat.reduceLT, Nat.reduceEqDiff, decide_true, decide_false, Bool.and_self, Bool.and_true, Bool.true_and, ↓reduceIte, List.set_cons_zero, List.set_cons_succ, Nat.reduceSub, Nat.add_left_cancel_iff, Nat.add_eq_left, Nat.left_eq_add, not_true_eq_false, not_false_eq_true, reduceCtorEq, i10, i01, ib10, ib01, beq_self_eq_true, eq_self, Int32.reduceLT, Int32.reduceToNatClampNeg, Int32.reduceAdd, Int32.reduceSub, Int32.reduceMul, Bool.or_true, Bool.true_or, Bool.or_false, Bool.false_or, Nat.reduceBEq, Nat.reduceMul, k1, hH, h5, ec, hq, Int32.lt_irrefl]
theorem c_take11 (hl : σ.1 50 = 0) : cDo 67 a [.int 1] σ (-5) σ := by
  refine cDo.same fun h hC => ?_
  obtain ⟨k1, k2, k3, k4, k5, k6, k7, k8⟩ := hC; unfold CO at k1; obtain ⟨S, q, ri, tr, ft, hA, hR⟩ := k2; have hH := hA.1; have h5 := hA.2.2.1; have h6 := hA.2.2.2; unfold CA at h5 h6; obtain ⟨kv1, kv2, hK⟩ := k4.kk
  have hq := hR.i10
  rw [hl] at hq
  have ec := p_crewOf 1 hA; rw [if_neg (by decide), if_pos rfl] at ec
  simp only [c67, q67_0, q67_1, q67_4, q67_5, q67_8, q67_8N, q67_9, q67_9N, q67_10, q67_10N, q67_13, q67_14, q67_15, q67_15N, q67_16, q67_19, q67_22, q67_24, q67_25, q67_26, q67_29, q67_30, q67_33, q67_36, q67_37, q67_40, q67_40N, q67_41, q67_44, rv_v, rv_n, rh_v, mu_at, isF_r, isK_r, fld_r, fset_r, gd0, gd1, gd2, gd3, gd4, gd5, gd6, gd7, gd8, gd9, gd10, gd11, gd12, gd13, inA_l, inW_l, inZ_l, inQ_l, aget_l, aset_l, qget_l, qset_l, isA_l, isA_q, alen_l, k2_i, k2_a, k2_n, k2_u, k2_l, ite_si, Option.isSome_some, List.cons_append, List.nil_append, List.length_cons, List.length_nil, Nat.reduceAdd, Nat.zero_add, Nat.reduceLT, Nat.reduceEqDiff, decide_true, decide_false, Bool.and_self, Bool.and_true, Bool.true_and, ↓reduceIte, List.set_cons_zero, List.set_cons_succ, Nat.reduceSub, Nat.add_left_cancel_iff, Nat.add_eq_left, Nat.left_eq_add, not_true_eq_false, not_false_eq_true, reduceCtorEq, i10, i01, ib10, ib01, beq_self_eq_true, eq_self, Int32.reduceLT, Int32.reduceToNatClampNeg, Int32.reduceAdd, Int32.reduceSub, Int32.reduceMul, Bool.or_true, Bool.true_or, Bool.or_false, Bool.false_or, Nat.reduceBEq, Nat.reduceMul, k1, hH, h6, ec, hq, Int32.lt_irrefl]
theorem c_take20 {u S' : Nat} (hu : σ.1 45 = nI (u + 1)) (h3 : σ.1 3 = nI S') (hu2 : u < S') (hS : S' ≤ 20) : cDo 67 a [.int 0] σ (nI u) (chg σ (some (tk0 σ.1 u))) := by
  intro h hC
  obtain ⟨m1, ek, gH, gf⟩ := c_keep hC
  have hC0 := hC
  obtain ⟨k1, k2, k3, k4, k5, k6, k7, k8⟩ := hC; unfold CO at k1; obtain ⟨S, q, ri, tr, ft, hA, hR⟩ := k2; have hH := hA.1; have h5 := hA.2.2.1; have h6 := hA.2.2.2; unfold CA at h5 h6; obtain ⟨kv1, kv2, hK⟩ := k4.kk
  have j1 := (gf a (by omega)).trans k1; have jA := hA.frame (m' := m1) (fun x g1 g2 => gf x (by omega)); have jH := jA.1; have j5 := jA.2.2.1; have j6 := jA.2.2.2; unfold CA at j5 j6
  obtain rfl : S' = S := (nI_eq (by omega) (by have := hR.1; omega)).mp (h3.symm.trans hR.2.1)
  have hq : q 5 = nI (u + 1) := hR.i5.trans hu
  have ep : nI (u + 1) - 1 = nI u := nI_pred u
  have c1 : 0 < q 5 := by rw [hq]; exact nI_0lt (by omega) (by omega)
  have el := hR.hl hu2
  have ec := p_crewOf 0 hA; rw [if_pos rfl] at ec
  have et := p_takeUp0 (h := (h.1, m1)) jA
  rw [hq, ep, el] at et
  have hw := jA.w5 (q' := upd (upd q 5 (nI u)) 8 (q 8 + ln σ.1 u)) (fun i hi => by rw [upd_n _ _ (by omega), upd_n _ _ (by omega)])
  have hr := (hR.up (i := 5) (nI u) (by decide) (by decide)).up (i := 8) (q 8 + ln σ.1 u) (by decide) (by decide)
  have er : tk0 σ.1 u = upd (upd σ.1 (pl 5) (nI u)) (pl 8) (q 8 + ln σ.1 u) := by unfold tk0; rw [hu, ep, hR.i8]; rfl
  have hm := hC0.ch (m' := mu m1 (a + 1 + 5) (.inr (0, [.int 1, .int (q 4), .int (nI u), .int (q 6), .int (q 7), .int (q 8 + ln σ.1 u)]))) (r' := tk0 σ.1 u) (L' := pushH σ.2.1 σ.1) ⟨S', _, _, _, _, hw, by rw [er]; exact hr⟩ (gH.fr (fun x q1 q2 => mu_n _ _ (by omega))) (fun x q1 q2 => by rw [mu_n _ _ (by omega)]; exact gf x q2)
  refine ⟨_, ?_, hm.1, hm.2⟩
  simp only [c67, q67_0, q67_1, q67_4, q67_5, q67_8, q67_8N, q67_9, q67_9N, q67_10, q67_10N, q67_13, q67_14, q67_15, q67_15N, q67_16, q67_19, q67_22, q67_24, q67_25, q67_26, q67_29, q67_30, q67_33, q67_36, q67_37, q67_40, q67_40N, q67_41, q67_44, rv_v, rv_n, rh_v, mu_at, isF_r, isK_r, fld_r, fset_r, gd0, gd1, gd2, gd3, gd4, gd5, gd6, gd7, gd8, gd9, gd10, gd11, gd12, gd13, inA_l, inW_l, inZ_l, inQ_l, aget_l, aset_l, qget_l, qset_l, isA_l, isA_q, alen_l, k2_i, k2_a, k2_n, k2_u, k2_l, ite_si, Option.isSome_some, List.cons_append, List.nil_append, List.length_cons, List.length_nil, Nat.reduceAdd, Nat.zero_add, Nat.reduceLT, Nat.reduceEqDiff, decide_true, decide_false, Bool.and_self, Bool.and_true, Bool.true_and, ↓reduceIte, List.set_cons_zero, List.set_cons_succ, Nat.reduceSub, Nat.add_left_cancel_iff, Nat.add_eq_left, Nat.left_eq_add, not_true_eq_false, not_false_eq_true, reduceCtorEq, i10, i01, ib10, ib01, beq_self_eq_true, eq_self, Int32.reduceLT, Int32.reduceToNatClampNeg, Int32.reduceAdd, Int32.reduceSub, Int32.reduceMul, Bool.or_true, Bool.true_or, Bool.or_false, Bool.false_or, Nat.reduceBEq, Nat.reduceMul, k1, hH, hK, h5, ec, if_pos c1, ek, j1, jH, et]
theorem c_take21 {u S' : Nat} (hu : σ.1 50 = nI (u + 1)) (h3 : σ.1 3 = nI S') (hu2 : u < S') (hS : S' ≤ 20) : cDo 67 a [.int 1] σ (nI (S' - (u + 1))) (chg σ (some (tk1 σ.1 (S' - (u + 1))))) := by
  intro h hC
  obtain ⟨m1, ek, gH, gf⟩ := c_keep hC
  have hC0 := hC
  obtain ⟨k1, k2, k3, k4, k5, k6, k7, k8⟩ := hC; unfold CO at k1; obtain ⟨S, q, ri, tr, ft, hA, hR⟩ := k2; have hH := hA.1; have h5 := hA.2.2.1; have h6 := hA.2.2.2; unfold CA at h5 h6; obtain ⟨kv1, kv2, hK⟩ := k4.kk
  have j1 := (gf a (by omega)).trans k1; have jA := hA.frame (m' := m1) (fun x g1 g2 => gf x (by omega)); have jH := jA.1; have j5 := jA.2.2.1; have j6 := jA.2.2.2; unfold CA at j5 j6
  obtain rfl : S' = S := (nI_eq (by omega) (by have := hR.1; omega)).mp (h3.symm.trans hR.2.1)
  have hq : q 10 = nI (u + 1) := hR.i10.trans hu
  have ep : nI (u + 1) - 1 = nI u := nI_pred u
  have es : nI S' - nI (u + 1) = nI (S' - (u + 1)) := pk_sub (by omega)
  have c1 : 0 < q 10 := by rw [hq]; exact nI_0lt (by omega) (by omega)
  have el := hR.hl (show S' - (u + 1) < S' by omega)
  have ec := p_crewOf 1 hA; rw [if_neg (by decide), if_pos rfl] at ec
  have et := p_takeUp1 (h := (h.1, m1)) jA
  rw [hq, hR.i3, ep, es, el] at et
  have hw := jA.w6 (q' := upd (upd q 10 (nI u)) 13 (q 13 + ln σ.1 (S' - (u + 1)))) (fun i hi => by rw [upd_n _ _ (by omega), upd_n _ _ (by omega)])
  have hr := (hR.up (i := 10) (nI u) (by decide) (by decide)).up (i := 13) (q 13 + ln σ.1 (S' - (u + 1))) (by decide) (by decide)
  have er : tk1 σ.1 (S' - (u + 1)) = upd (upd σ.1 (pl 10) (nI u)) (pl 13) (q 13 + ln σ.1 (S' - (u + 1))) := by unfold tk1; rw [hu, ep, hR.i13]; rfl
  have hm := hC0.ch (m' := mu m1 (a + 1 + 6) (.inr (0, [.int 0, .int (q 9), .int (nI u), .int (q 11), .int (q 12), .int (q 13 + ln σ.1 (S' - (u + 1)))]))) (r' := tk1 σ.1 (S' - (u + 1))) (L' := pushH σ.2.1 σ.1) ⟨S', _, _, _, _, hw, by rw [er]; exact hr⟩ (gH.fr (fun x q1 q2 => mu_n _ _ (by omega))) (fun x q1 q2 => by rw [mu_n _ _ (by omega)]; exact gf x q2)
  refine ⟨_, ?_, hm.1, hm.2⟩
  simp only [c67, q67_0, q67_1, q67_4, q67_5, q67_8, q67_8N, q67_9, q67_9N, q67_10, q67_10N, q67_13, q67_14, q67_15, q67_15N, q67_16, q67_19, q67_22, q67_24, q67_25, q67_26, q67_29, q67_30, q67_33, q67_36, q67_37, q67_40, q67_40N, q67_41, q67_44, rv_v, rv_n, rh_v, mu_at, isF_r, isK_r, fld_r, fset_r, gd0, gd1, gd2, gd3, gd4, gd5, gd6, gd7, gd8, gd9, gd10, gd11, gd12, gd13, inA_l, inW_l, inZ_l, inQ_l, aget_l, aset_l, qget_l, qset_l, isA_l, isA_q, alen_l, k2_i, k2_a, k2_n, k2_u, k2_l, ite_si, Option.isSome_some, List.cons_append, List.nil_append, List.length_cons, List.length_nil, Nat.reduceAdd, Nat.zero_add, Nat.reduceLT, Nat.reduceEqDiff, decide_true, decide_false, Bool.and_self, Bool.and_true, Bool.true_and, ↓reduceIte, List.set_cons_zero, List.set_cons_succ, Nat.reduceSub, Nat.add_left_cancel_iff, Nat.add_eq_left, Nat.left_eq_add, not_true_eq_false, not_false_eq_true, reduceCtorEq, i10, i01, ib10, ib01, beq_self_eq_true, eq_self, Int32.reduceLT, Int32.reduceToNatClampNeg, Int32.reduceAdd, Int32.reduceSub, Int32.reduceMul, Bool.or_true, Bool.true_or, Bool.or_false, Bool.false_or, Nat.reduceBEq, Nat.reduceMul, k1, hH, hK, h6, ec, if_pos c1, ek, j1, jH, et]
end
