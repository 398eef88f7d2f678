theorem bw_no {c : Int32} (h : bw c 0 1 = 0) : ¬ c = 0 ∧ ¬ c = 1 := by
  constructor
  · rintro rfl; exact absurd h (by decide)
  · rintro rfl; exact absurd h (by decide)
section
variable {a k : Nat} {σ : AS}
theorem c_begin0 (c p : Int32) (hc : bw c 0 1 = 0) : cDo 54 a [.int c, .int p] σ (-1) σ := by
  refine cDo.same fun h hC => ?_
  obtain ⟨k1, k2, k3, k4, k5, k6, k7, k8⟩ := hC; unfold CO at k1; obtain ⟨S, q, ri, tr, ft, hA, hR⟩ := k2; have hH := hA.1; have h5 := hA.2.2.1; have h6 := hA.2.2.2; unfold CA at h5 h6; obtain ⟨kv1, kv2, hK⟩ := k4.kk
  have ec := p_crewOf c hA
  rw [if_neg (bw_no hc).1, if_neg (bw_no hc).2] at ec
  simp only [c54, q54_0, q54_1, q54_4, q54_5, q54_8, q54_8N, q54_9, q54_9N, q54_10, q54_10N, q54_13, q54_14, q54_15, q54_16, q54_17, q54_18, q54_21, q54_24, q54_25, q54_26, q54_29, q54_32, q54_34, q54_35, q54_35N, q54_36, q54_39, q54_42, q54_44, q54_45, q54_46, q54_49, q54_50, q54_53, q54_56, q54_56N, q54_57, q54_60, q54_62, q54_62N, q54_63, q54_64, q54_67, q54_69, rv_v, rv_n, rh_v, mu_at, isF_r, isK_r, fld_r, fset_r, gd0, gd1, gd2, gd3, gd4, gd5, gd6, gd7, gd8, gd9, gd10, gd11, gd12, gd13, inA_l, inW_l, inZ_l, inQ_l, aget_l, aset_l, qget_l, qset_l, isA_l, isA_q, alen_l, k2_i, k2_a, k2_n, k2_u, k2_l, ite_si, Option.isSome_some, List.cons_append, List.nil_append, List.length_cons, List.length_nil, Nat.reduceAdd, Nat.zero_add, Nat.reduceLT, Nat.reduceEqDiff, decide_true, decide_false, Bool.and_self, Bool.and_true, Bool.true_and, ↓reduceIte, List.set_cons_zero, List.set_cons_succ, Nat.reduceSub, Nat.add_left_cancel_iff, Nat.add_eq_left, Nat.left_eq_add, not_true_eq_false, not_false_eq_true, reduceCtorEq, i10, i01, ib10, ib01, beq_self_eq_true, eq_self, Int32.reduceLT, Int32.reduceToNatClampNeg, Int32.reduceAdd, Int32.reduceSub, Int32.reduceMul, Bool.or_true, Bool.true_or, Bool.or_false, Bool.false_or, Nat.reduceBEq, Nat.reduceMul, k1, hH, ec]
theorem c_begin1 (c p : Int32) (hc : ¬ bw c 0 1 = 0) (hp : bw p 0 (σ.1 0 - 1) = 0) : cDo 54 a [.int c, .int p] σ (-2) σ := by
  refine cDo.same fun h hC => ?_
  obtain ⟨k1, k2, k3, k4, k5, k6, k7, k8⟩ := hC; unfold CO at k1; obtain ⟨S, q, ri, tr, ft, hA, hR⟩ := k2; have hH := hA.1; have h5 := hA.2.2.1; have h6 := hA.2.2.2; unfold CA at h5 h6; obtain ⟨kv1, kv2, hK⟩ := k4.kk
  have h0 := hR.i0
  rcases bw01 hc with rfl | rfl
  · have ec := p_crewOf 0 hA; rw [if_pos rfl] at ec
    simp only [c54, q54_0, q54_1, q54_4, q54_5, q54_8, q54_8N, q54_9, q54_9N, q54_10, q54_10N, q54_13, q54_14, q54_15, q54_16, q54_17, q54_18, q54_21, q54_24, q54_25, q54_26, q54_29, q54_32, q54_34, q54_35, q54_35N, q54_36, q54_39, q54_42, q54_44, q54_45, q54_46, q54_49, q54_50, q54_53, q54_56, q54_56N, q54_57, q54_60, q54_62, q54_62N, q54_63, q54_64, q54_67, q54_69, rv_v, rv_n, rh_v, mu_at, isF_r, isK_r, fld_r, fset_r, gd0, gd1, gd2, gd3, gd4, gd5, gd6, gd7, gd8, gd9, gd10, gd11, gd12, gd13, inA_l, inW_l, inZ_l, inQ_l, aget_l, aset_l, qget_l, qset_l, isA_l, isA_q, alen_l, k2_i, k2_a, k2_n, k2_u, k2_l, ite_si, Option.isSome_some, List.cons_append, List.nil_append, List.length_cons, List.length_nil, Nat.reduceAdd, Nat.zero_add, Nat.reduceLT, Nat.reduceEqDiff, decide_true, decide_false, Bool.and_self, Bool.and_true, Bool.true_and, ↓reduceIte, List.set_cons_zero, List.set_cons_succ, Nat.reduceSub, Nat.add_left_cancel_iff, Nat.add_eq_left, Nat.left_eq_add, not_true_eq_false, not_false_eq_true, reduceCtorEq, i10, i01, ib10, ib01, beq_self_eq_true, eq_self, Int32.reduceLT, Int32.reduceToNatClampNeg, Int32.reduceAdd, Int32.reduceSub, Int32.reduceMul, Bool.or_true, Bool.true_or, Bool.or_false, Bool.false_or, Nat.reduceBEq, Nat.reduceMul, k1, hH, ec, h0, p_isWithin, if_pos hp]
  · have ec := p_crewOf 1 hA; rw [if_neg (by decide), if_pos rfl] at ec
    simp only [c54, q54_0, q54_1, q54_4, q54_5, q54_8, q54_8N, q54_9, q54_9N, q54_10, q54_10N, q54_13, q54_14, q54_15, q54_16, q54_17, q54_18, q54_21, q54_24, q54_25, q54_26, q54_29, q54_32, q54_34, q54_35, q54_35N, q54_36, q54_39, q54_42, q54_44, q54_45, q54_46, q54_49, q54_50, q54_53, q54_56, q54_56N, q54_57, q54_60, q54_62, q54_62N, q54_63, q54_64, q54_67, q54_69, rv_v, rv_n, rh_v, mu_at, isF_r, isK_r, fld_r, fset_r, gd0, gd1, gd2, gd3, gd4, gd5, gd6, gd7, gd8, gd9, gd10, gd11, gd12, gd13, inA_l, inW_l, inZ_l, inQ_l, aget_l, aset_l, qget_l, qset_l, isA_l, isA_q, alen_l, k2_i, k2_a, k2_n, k2_u, k2_l, ite_si, Option.isSome_some, List.cons_append, List.nil_append, List.length_cons, List.length_nil, Nat.reduceAdd, Nat.zero_add, Nat.reduceLT, Nat.reduceEqDiff, decide_true, decide_false, Bool.and_self, Bool.and_true, Bool.true_and, ↓reduceIte, List.set_cons_zero, List.set_cons_succ, Nat.reduceSub, Nat.add_left_cancel_iff, Nat.add_eq_left, Nat.left_eq_add, not_true_eq_false, not_false_eq_true, reduceCtorEq, i10, i01, ib10, ib01, beq_self_eq_true, eq_self, Int32.reduceLT, Int32.reduceToNatClampNeg, Int32.reduceAdd, Int32.reduceSub, Int32.reduceMul, Bool.or_true, Bool.true_or, Bool.or_false, Bool.false_or, Nat.reduceBEq, Nat.reduceMul, k1, hH, ec, h0, p_isWithin, if_pos hp]
theorem c_begin20 (p : Int32) (hp : ¬ bw p 0 (σ.1 0 - 1) = 0) (hl : 0 < σ.1 45) : cDo 54 a [.int 0, .int p] σ (-5) σ := by
  refine cDo.same fun h hC => ?_
  obtain ⟨k1, k2, k3, k4, k5, k6, k7, k8⟩ := hC; unfold CO at k1; obtain ⟨S, q, ri, tr, ft, hA, hR⟩ := k2; have hH := hA.1; have h5 := hA.2.2.1; have h6 := hA.2.2.2; unfold CA at h5 h6; obtain ⟨kv1, kv2, hK⟩ := k4.kk
  have h0 := hR.i0
  have hq := hR.i5
  have ec := p_crewOf 0 hA; rw [if_pos rfl] at ec
  simp only [c54, q54_0, q54_1, q54_4, q54_5, q54_8, q54_8N, q54_9, q54_9N, q54_10, q54_10N, q54_13, q54_14, q54_15, q54_16, q54_17, q54_18, q54_21, q54_24, q54_25, q54_26, q54_29, q54_32, q54_34, q54_35, q54_35N, q54_36, q54_39, q54_42, q54_44, q54_45, q54_46, q54_49, q54_50, q54_53, q54_56, q54_56N, q54_57, q54_60, q54_62, q54_62N, q54_63, q54_64, q54_67, q54_69, rv_v, rv_n, rh_v, mu_at, isF_r, isK_r, fld_r, fset_r, gd0, gd1, gd2, gd3, gd4, gd5, gd6, gd7, gd8, gd9, gd10, gd11, gd12, gd13, inA_l, inW_l, inZ_l, inQ_l, aget_l, aset_l, qget_l, qset_l, isA_l, isA_q, alen_l, k2_i, k2_a, k2_n, k2_u, k2_l, ite_si, Option.isSome_some, List.cons_append, List.nil_append, List.length_cons, List.length_nil, Nat.reduceAdd, Nat.zero_add, Nat.reduceLT, Nat.reduceEqDiff, decide_true, decide_false, Bool.and_self, Bool.and_true, Bool.true_and, ↓reduceIte, List.set_cons_zero, List.set_cons_succ, Nat.reduceSub, Nat.add_left_cancel_iff, Nat.add_eq_left, Nat.left_eq_add, not_true_eq_false, not_false_eq_true, reduceCtorEq, i10, i01, ib10, ib01, beq_self_eq_true, eq_self, Int32.reduceLT, Int32.reduceToNatClampNeg, Int32.reduceAdd, Int32.reduceSub, Int32.reduceMul, Bool.or_true, Bool.true_or, Bool.or_false, Bool.false_or, Nat.reduceBEq, Nat.reduceMul, k1, hH, h5, ec, h0, hq, p_isWithin, if_neg hp, if_pos hl]
theorem c_begin21 (p : Int32) (hp : ¬ bw p 0 (σ.1 0 - 1) = 0) (hl : 0 < σ.1 50) : cDo 54 a [.int 1, .int p] σ (-5) σ := by
  refine cDo.same fun h hC => ?_
  obtain ⟨k1, k2, k3, k4, k5, k6, k7, k8⟩ := hC; unfold CO at k1; obtain ⟨S, q, ri, tr, ft, hA, hR⟩ := k2; have hH := hA.1; have h5 := hA.2.2.1; have h6 := hA.2.2.2; unfold CA at h5 h6; obtain ⟨kv1, kv2, hK⟩ := k4.kk
  have h0 := hR.i0
  have hq := hR.i10
  have ec := p_crewOf 1 hA; rw [if_neg (by decide), if_pos rfl] at ec
  simp only [c54, q54_0, q54_1, q54_4, q54_5, q54_8, q54_8N, q54_9, q54_9N, q54_10, q54_10N, q54_13, q54_14, q54_15, q54_16, q54_17, q54_18, q54_21, q54_24, q54_25, q54_26, q54_29, q54_32, q54_34, q54_35, q54_35N, q54_36, q54_39, q54_42, q54_44, q54_45, q54_46, q54_49, q54_50, q54_53, q54_56, q54_56N, q54_57, q54_60, q54_62, q54_62N, q54_63, q54_64, q54_67, q54_69, rv_v, rv_n, rh_v, mu_at, isF_r, isK_r, fld_r, fset_r, gd0, gd1, gd2, gd3, gd4, gd5, gd6, gd7, gd8, gd9, gd10, gd11, gd12, gd13, inA_l, inW_l, inZ_l, inQ_l, aget_l, aset_l, qget_l, qset_l, isA_l, isA_q, alen_l, k2_i, k2_a, k2_n, k2_u, k2_l, ite_si, Option.isSome_some, List.cons_append, List.nil_append, List.length_cons, List.length_nil, Nat.reduceAdd, Nat.zero_add, Nat.reduceLT, Nat.reduceEqDiff, decide_true, decide_false, Bool.and_self, Bool.and_true, Bool.true_and, ↓reduceIte, List.set_cons_zero, List.set_cons_succ, Nat.reduceSub, Nat.add_left_cancel_iff, Nat.add_eq_left, Nat.left_eq_add, not_true_eq_false, not_false_eq_true, reduceCtorEq, i10, i01, ib10, ib01, beq_self_eq_true, eq_self, Int32.reduceLT, Int32.reduceToNatClampNeg, Int32.reduceAdd, Int32.reduceSub, Int32.reduceMul, Bool.or_true, Bool.true_or, Bool.or_false, Bool.false_or, Nat.reduceBEq, Nat.reduceMul, k1, hH, h6, ec, h0, hq, p_isWithin, if_neg hp, if_pos hl]
theorem c_begin30 (p : Int32) (hp : ¬ bw p 0 (σ.1 0 - 1) = 0) (hl : ¬ 0 < σ.1 45) : cDo 54 a [.int 0, .int p] σ (σ.1 44) (chg σ (some (upd σ.1 44 p))) := by
  intro h hC
  obtain ⟨m1, ek, gH, gf⟩ := c_keep hC
  have hC0 := hC
  obtain ⟨k1, k2, k3, k4, k5, k6, k7, k8⟩ := hC; unfold CO at k1; obtain ⟨S, q, ri, tr, ft, hA, hR⟩ := k2; have hH := hA.1; have h5 := hA.2.2.1; have h6 := hA.2.2.2; unfold CA at h5 h6; obtain ⟨kv1, kv2, hK⟩ := k4.kk
  have j1 := (gf a (by omega)).trans k1; have jA := hA.frame (m' := m1) (fun x g1 g2 => gf x (by omega)); have jH := jA.1; have j5 := jA.2.2.1; have j6 := jA.2.2.2; unfold CA at j5 j6
  have h0 := hR.i0
  have hq := hR.i5
  have hb := hR.i4
  have ec := p_crewOf 0 hA; rw [if_pos rfl] at ec
  have hw := jA.w5 (q' := upd q 4 p) (fun i hi => upd_n _ _ (by omega))
  have hm := hC0.ch (m' := mu m1 (a + 1 + 5) (.inr (0, [.int 1, .int p, .int (q 5), .int (q 6), .int (q 7), .int (q 8)]))) (r' := upd σ.1 44 p) (L' := pushH σ.2.1 σ.1) ⟨S, _, _, _, _, hw, hR.up p (by decide) (by decide)⟩ (gH.fr (fun x q1 q2 => mu_n _ _ (by omega))) (fun x q1 q2 => by rw [mu_n _ _ (by omega)]; exact gf x q2)
  rw [hq] at h5 j5 hm
  refine ⟨_, ?_, hm.1, hm.2⟩
  simp only [c54, q54_0, q54_1, q54_4, q54_5, q54_8, q54_8N, q54_9, q54_9N, q54_10, q54_10N, q54_13, q54_14, q54_15, q54_16, q54_17, q54_18, q54_21, q54_24, q54_25, q54_26, q54_29, q54_32, q54_34, q54_35, q54_35N, q54_36, q54_39, q54_42, q54_44, q54_45, q54_46, q54_49, q54_50, q54_53, q54_56, q54_56N, q54_57, q54_60, q54_62, q54_62N, q54_63, q54_64, q54_67, q54_69, rv_v, rv_n, rh_v, mu_at, isF_r, isK_r, fld_r, fset_r, gd0, gd1, gd2, gd3, gd4, gd5, gd6, gd7, gd8, gd9, gd10, gd11, gd12, gd13, inA_l, inW_l, inZ_l, inQ_l, aget_l, aset_l, qget_l, qset_l, isA_l, isA_q, alen_l, k2_i, k2_a, k2_n, k2_u, k2_l, ite_si, Option.isSome_some, List.cons_append, List.nil_append, List.length_cons, List.length_nil, Nat.reduceAdd, Nat.zero_add, Nat.reduceLT, Nat.reduceEqDiff, decide_true, decide_false, Bool.and_self, Bool.and_true, Bool.true_and, ↓reduceIte, List.set_cons_zero, List.set_cons_succ, Nat.reduceSub, Nat.add_left_cancel_iff, Nat.add_eq_left, Nat.left_eq_add, not_true_eq_false, not_false_eq_true, reduceCtorEq, i10, i01, ib10, ib01, beq_self_eq_true, eq_self, Int32.reduceLT, Int32.reduceToNatClampNeg, Int32.reduceAdd, Int32.reduceSub, Int32.reduceMul, Bool.or_true, Bool.true_or, Bool.or_false, Bool.false_or, Nat.reduceBEq, Nat.reduceMul, k1, hH, hK, h5, ec, h0, hb, p_isWithin, if_neg hp, if_neg hl, ek, j1, jH, j5]
theorem c_begin31 (p : Int32) (hp : ¬ bw p 0 (σ.1 0 - 1) = 0) (hl : ¬ 0 < σ.1 50) : cDo 54 a [.int 1, .int p] σ (σ.1 49) (chg σ (some (upd σ.1 49 p))) := by
  intro h hC
  obtain ⟨m1, ek, gH, gf⟩ := c_keep hC
  have hC0 := hC
  obtain ⟨k1, k2, k3, k4, k5, k6, k7, k8⟩ := hC; unfold CO at k1; obtain ⟨S, q, ri, tr, ft, hA, hR⟩ := k2; have hH := hA.1; have h5 := hA.2.2.1; have h6 := hA.2.2.2; unfold CA at h5 h6; obtain ⟨kv1, kv2, hK⟩ := k4.kk
  have j1 := (gf a (by omega)).trans k1; have jA := hA.frame (m' := m1) (fun x g1 g2 => gf x (by omega)); have jH := jA.1; have j5 := jA.2.2.1; have j6 := jA.2.2.2; unfold CA at j5 j6
  have h0 := hR.i0
  have hq := hR.i10
  have hb := hR.i9
  have ec := p_crewOf 1 hA; rw [if_neg (by decide), if_pos rfl] at ec
  have hw := jA.w6 (q' := upd q 9 p) (fun i hi => upd_n _ _ (by omega))
  have hm := hC0.ch (m' := mu m1 (a + 1 + 6) (.inr (0, [.int 0, .int p, .int (q 10), .int (q 11), .int (q 12), .int (q 13)]))) (r' := upd σ.1 49 p) (L' := pushH σ.2.1 σ.1) ⟨S, _, _, _, _, hw, hR.up p (by decide) (by decide)⟩ (gH.fr (fun x q1 q2 => mu_n _ _ (by omega))) (fun x q1 q2 => by rw [mu_n _ _ (by omega)]; exact gf x q2)
  rw [hq] at h6 j6 hm
  refine ⟨_, ?_, hm.1, hm.2⟩
  simp only [c54, q54_0, q54_1, q54_4, q54_5, q54_8, q54_8N, q54_9, q54_9N, q54_10, q54_10N, q54_13, q54_14, q54_15, q54_16, q54_17, q54_18, q54_21, q54_24, q54_25, q54_26, q54_29, q54_32, q54_34, q54_35, q54_35N, q54_36, q54_39, q54_42, q54_44, q54_45, q54_46, q54_49, q54_50, q54_53, q54_56, q54_56N, q54_57, q54_60, q54_62, q54_62N, q54_63, q54_64, q54_67, q54_69, rv_v, rv_n, rh_v, mu_at, isF_r, isK_r, fld_r, fset_r, gd0, gd1, gd2, gd3, gd4, gd5, gd6, gd7, gd8, gd9, gd10, gd11, gd12, gd13, inA_l, inW_l, inZ_l, inQ_l, aget_l, aset_l, qget_l, qset_l, isA_l, isA_q, alen_l, k2_i, k2_a, k2_n, k2_u, k2_l, ite_si, Option.isSome_some, List.cons_append, List.nil_append, List.length_cons, List.length_nil, Nat.reduceAdd, Nat.zero_add, Nat.reduceLT, Nat.reduceEqDiff, decide_true, decide_false, Bool.and_self, Bool.and_true, Bool.true_and, ↓reduceIte, List.set_cons_zero, List.set_cons_succ, Nat.reduceSub, Nat.add_left_cancel_iff, Nat.add_eq_left, Nat.left_eq_add, not_true_eq_false, not_false_eq_true, reduceCtorEq, i10, i01, ib10, ib01, beq_self_eq_true, eq_self, Int32.reduceLT, Int32.reduceToNatClampNeg, Int32.reduceAdd, Int32.reduceSub, Int32.reduceMul, Bool.or_true, Bool.true_or, Bool.or_false, Bool.false_or, Nat.reduceBEq, Nat.reduceMul, k1, hH, hK, h6, ec, h0, hb, p_isWithin, if_neg hp, if_neg hl, ek, j1, jH, j6]
theorem c_take0 (c : Int32) (hc : bw c 0 1 = 0) : cDo 56 a [.int c] σ (-1) σ := by
  refine cDo.same fun h hC => ?_
  obtain ⟨k1, k2, k3, k4, k5, k6, k7, k8⟩ := hC; unfold CO at k1; obtain ⟨S, q, ri, tr, ft, hA, hR⟩ := k2; have hH := hA.1; have h5 := hA.2.2.1; have h6 := hA.2.2.2; unfold CA at h5 h6; obtain ⟨kv1, kv2, hK⟩ := k4.kk
  have ec := p_crewOf c hA
  rw [if_neg (bw_no hc).1, if_neg (bw_no hc).2] at ec
  simp only [c56, q56_0, q56_1, q56_4, q56_5, q56_8, q56_8N, q56_9, q56_9N, q56_10, q56_10N, q56_13, q56_14, q56_15, q56_15N, q56_16, q56_19, q56_22, q56_24, q56_25, q56_26, q56_29, q56_30, q56_33, q56_36, q56_37, q56_40, q56_40N, q56_41, q56_44, rv_v, rv_n, rh_v, mu_at, isF_r, isK_r, fld_r, fset_r, gd0, gd1, gd2, gd3, gd4, gd5, gd6, gd7, gd8, gd9, gd10, gd11, gd12, gd13, inA_l, inW_l, inZ_l, inQ_l, aget_l, aset_l, qget_l, qset_l, isA_l, isA_q, alen_l, k2_i, k2_a, k2_n, k2_u, k2_l, ite_si, Option.isSome_some, List.cons_append, List.nil_append, List.length_cons, List.length_nil, Nat.reduceAdd, Nat.zero_add, Nat.reduceLT, Nat.reduceEqDiff, decide_true, decide_false, Bool.and_self, Bool.and_true, Bool.true_and, ↓reduceIte, List.set_cons_zero, List.set_cons_succ, Nat.reduceSub, Nat.add_left_cancel_iff, Nat.add_eq_left, Nat.left_eq_add, not_true_eq_false, not_false_eq_true, reduceCtorEq, i10, i01, ib10, ib01, beq_self_eq_true, eq_self, Int32.reduceLT, Int32.reduceToNatClampNeg, Int32.reduceAdd, Int32.reduceSub, Int32.reduceMul, Bool.or_true, Bool.true_or, Bool.or_false, Bool.false_or, Nat.reduceBEq, Nat.reduceMul, k1, hH, ec]
theorem c_take10 (hl : σ.1 45 = 0) : cDo 56 a [.int 0] σ (-5) σ := by
  refine cDo.same fun h hC => ?_
  obtain ⟨k1, k2, k3, k4, k5, k6, k7, k8⟩ := hC; unfold CO at k1; obtain ⟨S, q, ri, tr, ft, hA, hR⟩ := k2; have hH := hA.1; have h5 := hA.2.2.1; have h6 := hA.2.2.2; unfold CA at h5 h6; obtain ⟨kv1, kv2, hK⟩ := k4.kk
  have hq := hR.i5
  rw [hl] at hq
  have ec := p_crewOf 0 hA; rw [if_pos rfl] at ec
  simp only [c56, q56_0, q56_1, q56_4, q56_5, q56_8, q56_8N, q56_9, q56_9N, q56_10, q56_10N, q56_13, q56_14, q56_15, q56_15N, q56_16, q56_19, q56_22, q56_24, q56_25, q56_26, q56_29, q56_30, q56_33, q56_36, q56_37, q56_40, q56_40N, q56_41, q56_44, rv_v, rv_n, rh_v, mu_at, isF_r, isK_r, fld_r, fset_r, gd0, gd1, gd2, gd3, gd4, gd5, gd6, gd7, gd8, gd9, gd10, gd11, gd12, gd13, inA_l, inW_l, inZ_l, inQ_l, aget_l, aset_l, qget_l, qset_l, isA_l, isA_q, alen_l, k2_i, k2_a, k2_n, k2_u, k2_l, ite_si, Option.isSome_some, List.cons_append, List.nil_append, List.length_cons, List.length_nil, Nat.reduceAdd, Nat.zero_add, Nat.reduceLT, Nat.reduceEqDiff, decide_true, decide_false, Bool.and_self, Bool.and_true, Bool.true_and, ↓reduceIte, List.set_cons_zero, List.set_cons_succ, Nat.reduceSub, Nat.add_left_cancel_iff, Nat.add_eq_left, Nat.left_eq_add, not_true_eq_false, not_false_eq_true, reduceCtorEq, i10, i01, ib10, ib01, beq_self_eq_true, eq_self, Int32.reduceLT, Int32.reduceToNatClampNeg, Int32.reduceAdd, Int32.reduceSub, Int32.reduceMul, Bool.or_true, Bool.true_or, Bool.or_false, Bool.false_or, Nat.reduceBEq, Nat.reduceMul, k1, hH, h5, ec, hq, Int32.lt_irrefl]
theorem c_take11 (hl : σ.1 50 = 0) : cDo 56 a [.int 1] σ (-5) σ := by
  refine cDo.same fun h hC => ?_
  obtain ⟨k1, k2, k3, k4, k5, k6, k7, k8⟩ := hC; unfold CO at k1; obtain ⟨S, q, ri, tr, ft, hA, hR⟩ := k2; have hH := hA.1; have h5 := hA.2.2.1; have h6 := hA.2.2.2; unfold CA at h5 h6; obtain ⟨kv1, kv2, hK⟩ := k4.kk
  have hq := hR.i10
  rw [hl] at hq
  have ec := p_crewOf 1 hA; rw [if_neg (by decide), if_pos rfl] at ec
  simp only [c56, q56_0, q56_1, q56_4, q56_5, q56_8, q56_8N, q56_9, q56_9N, q56_10, q56_10N, q56_13, q56_14, q56_15, q56_15N, q56_16, q56_19, q56_22, q56_24, q56_25, q56_26, q56_29, q56_30, q56_33, q56_36, q56_37, q56_40, q56_40N, q56_41, q56_44, rv_v, rv_n, rh_v, mu_at, isF_r, isK_r, fld_r, fset_r, gd0, gd1, gd2, gd3, gd4, gd5, gd6, gd7, gd8, gd9, gd10, gd11, gd12, gd13, inA_l, inW_l, inZ_l, inQ_l, aget_l, aset_l, qget_l, qset_l, isA_l, isA_q, alen_l, k2_i, k2_a, k2_n, k2_u, k2_l, ite_si, Option.isSome_some, List.cons_append, List.nil_append, List.length_cons, List.length_nil, Nat.reduceAdd, Nat.zero_add, Nat.reduceLT, Nat.reduceEqDiff, decide_true, decide_false, Bool.and_self, Bool.and_true, Bool.true_and, ↓reduceIte, List.set_cons_zero, List.set_cons_succ, Nat.reduceSub, Nat.add_left_cancel_iff, Nat.add_eq_left, Nat.left_eq_add, not_true_eq_false, not_false_eq_true, reduceCtorEq, i10, i01, ib10, ib01, beq_self_eq_true, eq_self, Int32.reduceLT, Int32.reduceToNatClampNeg, Int32.reduceAdd, Int32.reduceSub, Int32.reduceMul, Bool.or_true, Bool.true_or, Bool.or_false, Bool.false_or, Nat.reduceBEq, Nat.reduceMul, k1, hH, h6, ec, hq, Int32.lt_irrefl]
theorem c_take20 {u S' : Nat} (hu : σ.1 45 = nI (u + 1)) (h3 : σ.1 3 = nI S') (hu2 : u < S') (hS : S' ≤ 20) : cDo 56 a [.int 0] σ (nI u) (chg σ (some (tk0 σ.1 u))) := by
  intro h hC
  obtain ⟨m1, ek, gH, gf⟩ := c_keep hC
  have hC0 := hC
  obtain ⟨k1, k2, k3, k4, k5, k6, k7, k8⟩ := hC; unfold CO at k1; obtain ⟨S, q, ri, tr, ft, hA, hR⟩ := k2; have hH := hA.1; have h5 := hA.2.2.1; have h6 := hA.2.2.2; unfold CA at h5 h6; obtain ⟨kv1, kv2, hK⟩ := k4.kk
  have j1 := (gf a (by omega)).trans k1; have jA := hA.frame (m' := m1) (fun x g1 g2 => gf x (by omega)); have jH := jA.1; have j5 := jA.2.2.1; have j6 := jA.2.2.2; unfold CA at j5 j6
  obtain rfl : S' = S := (nI_eq (by omega) (by have := hR.1; omega)).mp (h3.symm.trans hR.2.1)
  have hq : q 5 = nI (u + 1) := hR.i5.trans hu
  have ep : nI (u + 1) - 1 = nI u := nI_pred u
  have c1 : 0 < q 5 := by rw [hq]; exact nI_0lt (by omega) (by omega)
  have el := hR.hl hu2
  have ec := p_crewOf 0 hA; rw [if_pos rfl] at ec
  have et := p_takeUp0 (h := (h.1, m1)) jA
  rw [hq, ep, el] at et
  have hw := jA.w5 (q' := upd (upd q 5 (nI u)) 8 (q 8 + ln σ.1 u)) (fun i hi => by rw [upd_n _ _ (by omega), upd_n _ _ (by omega)])
  have hr := (hR.up (i := 5) (nI u) (by decide) (by decide)).up (i := 8) (q 8 + ln σ.1 u) (by decide) (by decide)
  have er : tk0 σ.1 u = upd (upd σ.1 (pl 5) (nI u)) (pl 8) (q 8 + ln σ.1 u) := by unfold tk0; rw [hu, ep, hR.i8]; rfl
  have hm := hC0.ch (m' := mu m1 (a + 1 + 5) (.inr (0, [.int 1, .int (q 4), .int (nI u), .int (q 6), .int (q 7), .int (q 8 + ln σ.1 u)]))) (r' := tk0 σ.1 u) (L' := pushH σ.2.1 σ.1) ⟨S', _, _, _, _, hw, by rw [er]; exact hr⟩ (gH.fr (fun x q1 q2 => mu_n _ _ (by omega))) (fun x q1 q2 => by rw [mu_n _ _ (by omega)]; exact gf x q2)
  refine ⟨_, ?_, hm.1, hm.2⟩
  simp only [c56, q56_0, q56_1, q56_4, q56_5, q56_8, q56_8N, q56_9, q56_9N, q56_10, q56_10N, q56_13, q56_14, q56_15, q56_15N, q56_16, q56_19, q56_22, q56_24, q56_25, q56_26, q56_29, q56_30, q56_33, q56_36, q56_37, q56_40, q56_40N, q56_41, q56_44, rv_v, rv_n, rh_v, mu_at, isF_r, isK_r, fld_r, fset_r, gd0, gd1, gd2, gd3, gd4, gd5, gd6, gd7, gd8, gd9, gd10, gd11, gd12, gd13, inA_l, inW_l, inZ_l, inQ_l, aget_l, aset_l, qget_l, qset_l, isA_l, isA_q, alen_l, k2_i, k2_a, k2_n, k2_u, k2_l, ite_si, Option.isSome_some, List.cons_append, List.nil_append, List.length_cons, List.length_nil, Nat.reduceAdd, Nat.zero_add, Nat.reduceLT, Nat.reduceEqDiff, decide_true, decide_false, Bool.and_self, Bool.and_true, Bool.true_and, ↓reduceIte, List.set_cons_zero, List.set_cons_succ, Nat.reduceSub, Nat.add_left_cancel_iff, Nat.add_eq_left, Nat.left_eq_add, not_true_eq_false, not_false_eq_true, reduceCtorEq, i10, i01, ib10, ib01, beq_self_eq_true, eq_self, Int32.reduceLT, Int32.reduceToNatClampNeg, Int32.reduceAdd, Int32.reduceSub, Int32.reduceMul, Bool.or_true, Bool.true_or, Bool.or_false, Bool.false_or, Nat.reduceBEq, Nat.reduceMul, k1, hH, hK, h5, ec, if_pos c1, ek, j1, jH, et]
theorem c_take21 {u S' : Nat} (hu : σ.1 50 = nI (u + 1)) (h3 : σ.1 3 = nI S') (hu2 : u < S') (hS : S' ≤ 20) : cDo 56 a [.int 1] σ (nI (S' - (u + 1))) (chg σ (some (tk1 σ.1 (S' - (u + 1))))) := by
  intro h hC
  obtain ⟨m1, ek, gH, gf⟩ := c_keep hC
  have hC0 := hC
  obtain ⟨k1, k2, k3, k4, k5, k6, k7, k8⟩ := hC; unfold CO at k1; obtain ⟨S, q, ri, tr, ft, hA, hR⟩ := k2; have hH := hA.1; have h5 := hA.2.2.1; have h6 := hA.2.2.2; unfold CA at h5 h6; obtain ⟨kv1, kv2, hK⟩ := k4.kk
  have j1 := (gf a (by omega)).trans k1; have jA := hA.frame (m' := m1) (fun x g1 g2 => gf x (by omega)); have jH := jA.1; have j5 := jA.2.2.1; have j6 := jA.2.2.2; unfold CA at j5 j6
  obtain rfl : S' = S := (nI_eq (by omega) (by have := hR.1; omega)).mp (h3.symm.trans hR.2.1)
  have hq : q 10 = nI (u + 1) := hR.i10.trans hu
  have ep : nI (u + 1) - 1 = nI u := nI_pred u
  have es : nI S' - nI (u + 1) = nI (S' - (u + 1)) := pk_sub (by omega)
  have c1 : 0 < q 10 := by rw [hq]; exact nI_0lt (by omega) (by omega)
  have el := hR.hl (show S' - (u + 1) < S' by omega)
  have ec := p_crewOf 1 hA; rw [if_neg (by decide), if_pos rfl] at ec
  have et := p_takeUp1 (h := (h.1, m1)) jA
  rw [hq, hR.i3, ep, es, el] at et
  have hw := jA.w6 (q' := upd (upd q 10 (nI u)) 13 (q 13 + ln σ.1 (S' - (u + 1)))) (fun i hi => by rw [upd_n _ _ (by omega), upd_n _ _ (by omega)])
  have hr := (hR.up (i := 10) (nI u) (by decide) (by decide)).up (i := 13) (q 13 + ln σ.1 (S' - (u + 1))) (by decide) (by decide)
  have er : tk1 σ.1 (S' - (u + 1)) = upd (upd σ.1 (pl 10) (nI u)) (pl 13) (q 13 + ln σ.1 (S' - (u + 1))) := by unfold tk1; rw [hu, ep, hR.i13]; rfl
  have hm := hC0.ch (m' := mu m1 (a + 1 + 6) (.inr (0, [.int 0, .int (q 9), .int (nI u), .int (q 11), .int (q 12), .int (q 13 + ln σ.1 (S' - (u + 1)))]))) (r' := tk1 σ.1 (S' - (u + 1))) (L' := pushH σ.2.1 σ.1) ⟨S', _, _, _, _, hw, by rw [er]; exact hr⟩ (gH.fr (fun x q1 q2 => mu_n _ _ (by omega))) (fun x q1 q2 => by rw [mu_n _ _ (by omega)]; exact gf x q2)
  refine ⟨_, ?_, hm.1, hm.2⟩
  simp only [c56, q56_0, q56_1, q56_4, q56_5, q56_8, q56_8N, q56_9, q56_9N, q56_10, q56_10N, q56_13, q56_14, q56_15, q56_15N, q56_16, q56_19, q56_22, q56_24, q56_25, q56_26, q56_29, q56_30, q56_33, q56_36, q56_37, q56_40, q56_40N, q56_41, q56_44, rv_v, rv_n, rh_v, mu_at, isF_r, isK_r, fld_r, fset_r, gd0, gd1, gd2, gd3, gd4, gd5, gd6, gd7, gd8, gd9, gd10, gd11, gd12, gd13, inA_l, inW_l, inZ_l, inQ_l, aget_l, aset_l, qget_l, qset_l, isA_l, isA_q, alen_l, k2_i, k2_a, k2_n, k2_u, k2_l, ite_si, Option.isSome_some, List.cons_append, List.nil_append, List.length_cons, List.length_nil, Nat.reduceAdd, Nat.zero_add, Nat.reduceLT, Nat.reduceEqDiff, decide_true, decide_false, Bool.and_self, Bool.and_true, Bool.true_and, ↓reduceIte, List.set_cons_zero, List.set_cons_succ, Nat.reduceSub, Nat.add_left_cancel_iff, Nat.add_eq_left, Nat.left_eq_add, not_true_eq_false, not_false_eq_true, reduceCtorEq, i10, i01, ib10, ib01, beq_self_eq_true, eq_self, Int32.reduceLT, Int32.reduceToNatClampNeg, Int32.reduceAdd, Int32.reduceSub, Int32.reduceMul, Bool.or_true, Bool.true_or, Bool.or_false, Bool.false_or, Nat.reduceBEq, Nat.reduceMul, k1, hH, hK, h6, ec, if_pos c1, ek, j1, jH, et]
end
