theorem inA_s (n : Nat) (f : Nat → Int32) (i : Int32) : inA 149 (.inl (3, n, .inl f)) i = (decide (¬ i < 0) && decide (i.toNatClampNeg < n)) := by simp [inA, x_LAW]
theorem isA_s (n : Nat) (f : Nat → Int32) : isA 149 (.inl (3, n, .inl f)) = true := by simp [isA, x_LAW]
section
variable {a b bs L i k : Nat} {xs : Nat → Int32} {z : Nat × Nat} {σ : AS} {m : xM}
theorem l_set (hd : a + 82 ≤ b) (hs : bs < a) (hi : i + 3 ≤ L) (hL : L ≤ 1536) (hm : m bs = .inl (3, L, .inl xs)) (hC : CC m a σ) (hM : MM m b σ) (hA : AI k σ) (hk : k < 600) (hx : xs i &&& 31 = 0) : ∃ m' σ', rn 149 26 [.ref bs, .ref a, .ref b, .int (nI i)] [] (z, m) = rn 149 18 [.ref bs, .ref a, .ref b, .int (nI (i + 3))] [] (z, m') ∧ m' bs = .inl (3, L, .inl xs) ∧ CC m' a σ' ∧ MM m' b σ' ∧ AI (k + 1) σ' := by
  have k1 := hC.1; unfold CO at k1; obtain ⟨v1, v2, v3, v4, v5, v6, v7, v8, v9, v10, v11, v12, v13, kb⟩ := hM.obj; have c0 : ¬ nI i < 0 := nI_pos (by omega); have c1 : (nI i).toNatClampNeg = i := nI_clamp (by omega); have c2 : i < L := (by omega); have d0 : ¬ nI (i + 1) < 0 := nI_pos (by omega); have d1 : (nI (i + 1)).toNatClampNeg = i + 1 := nI_clamp (by omega); have d2 : i + 1 < L := (by omega); have b0 : ¬ nI (i + 2) < 0 := nI_pos (by omega); have b1 : (nI (i + 2)).toNatClampNeg = i + 2 := nI_clamp (by omega); have b2 : i + 2 < L := (by omega); have t2 : nI i + 2 = nI (i + 2) := nI_add i 2; have t3 : nI i + 3 = nI (i + 3) := nI_add i 3
  obtain ⟨v, m1, m2, σ', e1, e2, g1, g2, g3, f2, f1⟩ := y_set hd hA hk (xs (i + 1)) (xs (i + 2)) (z, m) hC hM
  have s1 : m1 bs = _ := (f1 bs (by omega)).trans hm
  have s2 : m2 bs = _ := (f2 bs (by omega) (by omega)).trans hm
  have kb1 : m1 b = _ := (f1 b (by omega)).trans kb
  refine ⟨m2, σ', ?_, s2, g1, g2, g3⟩
  simp only [q149_26, q149_26N, q149_27, q149_28, q149_29, q149_31, q149_32, q149_128, q149_128N, q149_129, q149_129N, q149_130, q149_131, q149_132, q149_133, q149_134, q149_134N, q149_135, q149_136, q149_137, q149_138, q149_139, q149_142, q149_142N, q149_143, q149_143N, q149_144, q149_145, q149_146, q149_147, q149_148, q149_148N, q149_149, q149_150, q149_151, q149_152, q149_153, q149_156, q149_159, q149_160, q149_618, q149_621, rv_v, rv_n, rh_v, mu_at, isF_r, isK_r, fld_r, fset_r, gd0, gd1, gd2, gd3, gd4, gd5, gd6, gd7, gd8, gd9, gd10, gd11, gd12, gd13, inA_l, inW_l, inZ_l, inQ_l, aget_l, aset_l, qget_l, qset_l, isA_l, isA_q, alen_l, k2_i, k2_a, k2_n, k2_u, k2_l, ite_si, Option.isSome_some, List.cons_append, List.nil_append, List.length_cons, List.length_nil, Nat.reduceAdd, Nat.zero_add, Nat.reduceLT, Nat.reduceEqDiff, decide_true, decide_false, Bool.and_self, Bool.and_true, Bool.true_and, ↓reduceIte, List.set_cons_zero, List.set_cons_succ, Nat.reduceSub, Nat.add_left_cancel_iff, Nat.add_eq_left, Nat.left_eq_add, not_true_eq_false, not_false_eq_true, reduceCtorEq, i10, i01, ib10, ib01, beq_self_eq_true, eq_self, Int32.reduceLT, Int32.reduceToNatClampNeg, Int32.reduceAdd, Int32.reduceSub, Int32.reduceMul, Bool.or_true, Bool.true_or, Bool.or_false, Bool.false_or, Nat.reduceBEq, Nat.reduceMul, k1, kb, c0, c1, c2, d0, d1, d2, b0, b1, b2, t2, t3, nI_1, inA_s, hm, hx, s1, kb1, e1, e2]
theorem l_build (hd : a + 82 ≤ b) (hs : bs < a) (hi : i + 3 ≤ L) (hL : L ≤ 1536) (hm : m bs = .inl (3, L, .inl xs)) (hC : CC m a σ) (hM : MM m b σ) (hA : AI k σ) (hk : k < 600) (hx : xs i &&& 31 = 1) : ∃ m' σ', rn 149 26 [.ref bs, .ref a, .ref b, .int (nI i)] [] (z, m) = rn 149 18 [.ref bs, .ref a, .ref b, .int (nI (i + 3))] [] (z, m') ∧ m' bs = .inl (3, L, .inl xs) ∧ CC m' a σ' ∧ MM m' b σ' ∧ AI (k + 1) σ' := by
  have k1 := hC.1; unfold CO at k1; obtain ⟨v1, v2, v3, v4, v5, v6, v7, v8, v9, v10, v11, v12, v13, kb⟩ := hM.obj; have c0 : ¬ nI i < 0 := nI_pos (by omega); have c1 : (nI i).toNatClampNeg = i := nI_clamp (by omega); have c2 : i < L := (by omega); have d0 : ¬ nI (i + 1) < 0 := nI_pos (by omega); have d1 : (nI (i + 1)).toNatClampNeg = i + 1 := nI_clamp (by omega); have d2 : i + 1 < L := (by omega); have b0 : ¬ nI (i + 2) < 0 := nI_pos (by omega); have b1 : (nI (i + 2)).toNatClampNeg = i + 2 := nI_clamp (by omega); have b2 : i + 2 < L := (by omega); have t2 : nI i + 2 = nI (i + 2) := nI_add i 2; have t3 : nI i + 3 = nI (i + 3) := nI_add i 3
  obtain ⟨v, m1, m2, σ', e1, e2, g1, g2, g3, f2, f1⟩ := y_build hd hA hk (xs (i + 1)) (xs (i + 2)) (z, m) hC hM
  have s1 : m1 bs = _ := (f1 bs (by omega)).trans hm
  have s2 : m2 bs = _ := (f2 bs (by omega) (by omega)).trans hm
  have kb1 : m1 b = _ := (f1 b (by omega)).trans kb
  have z0 : ((1 : Int32) = 0) = False := by decide
  refine ⟨m2, σ', ?_, s2, g1, g2, g3⟩
  simp only [q149_26, q149_26N, q149_27, q149_28, q149_29, q149_31, q149_32, q149_161, q149_161N, q149_162, q149_162N, q149_163, q149_164, q149_165, q149_166, q149_167, q149_167N, q149_168, q149_169, q149_170, q149_171, q149_172, q149_175, q149_175N, q149_176, q149_176N, q149_177, q149_178, q149_179, q149_180, q149_181, q149_181N, q149_182, q149_183, q149_184, q149_185, q149_186, q149_189, q149_192, q149_193, q149_618, q149_621, rv_v, rv_n, rh_v, mu_at, isF_r, isK_r, fld_r, fset_r, gd0, gd1, gd2, gd3, gd4, gd5, gd6, gd7, gd8, gd9, gd10, gd11, gd12, gd13, inA_l, inW_l, inZ_l, inQ_l, aget_l, aset_l, qget_l, qset_l, isA_l, isA_q, alen_l, k2_i, k2_a, k2_n, k2_u, k2_l, ite_si, Option.isSome_some, List.cons_append, List.nil_append, List.length_cons, List.length_nil, Nat.reduceAdd, Nat.zero_add, Nat.reduceLT, Nat.reduceEqDiff, decide_true, decide_false, Bool.and_self, Bool.and_true, Bool.true_and, ↓reduceIte, List.set_cons_zero, List.set_cons_succ, Nat.reduceSub, Nat.add_left_cancel_iff, Nat.add_eq_left, Nat.left_eq_add, not_true_eq_false, not_false_eq_true, reduceCtorEq, i10, i01, ib10, ib01, beq_self_eq_true, eq_self, Int32.reduceLT, Int32.reduceToNatClampNeg, Int32.reduceAdd, Int32.reduceSub, Int32.reduceMul, Bool.or_true, Bool.true_or, Bool.or_false, Bool.false_or, Nat.reduceBEq, Nat.reduceMul, k1, kb, c0, c1, c2, d0, d1, d2, b0, b1, b2, t2, t3, nI_1, inA_s, hm, hx, s1, kb1, e1, e2, z0]
theorem l_read (hd : a + 82 ≤ b) (hs : bs < a) (hi : i + 3 ≤ L) (hL : L ≤ 1536) (hm : m bs = .inl (3, L, .inl xs)) (hC : CC m a σ) (hM : MM m b σ) (hA : AI k σ) (hk : k < 600) (hx : xs i &&& 31 = 2) : ∃ m' σ', rn 149 26 [.ref bs, .ref a, .ref b, .int (nI i)] [] (z, m) = rn 149 18 [.ref bs, .ref a, .ref b, .int (nI (i + 3))] [] (z, m') ∧ m' bs = .inl (3, L, .inl xs) ∧ CC m' a σ' ∧ MM m' b σ' ∧ AI (k + 1) σ' := by
  have k1 := hC.1; unfold CO at k1; obtain ⟨v1, v2, v3, v4, v5, v6, v7, v8, v9, v10, v11, v12, v13, kb⟩ := hM.obj; have c0 : ¬ nI i < 0 := nI_pos (by omega); have c1 : (nI i).toNatClampNeg = i := nI_clamp (by omega); have c2 : i < L := (by omega); have d0 : ¬ nI (i + 1) < 0 := nI_pos (by omega); have d1 : (nI (i + 1)).toNatClampNeg = i + 1 := nI_clamp (by omega); have d2 : i + 1 < L := (by omega); have b0 : ¬ nI (i + 2) < 0 := nI_pos (by omega); have b1 : (nI (i + 2)).toNatClampNeg = i + 2 := nI_clamp (by omega); have b2 : i + 2 < L := (by omega); have t2 : nI i + 2 = nI (i + 2) := nI_add i 2; have t3 : nI i + 3 = nI (i + 3) := nI_add i 3
  obtain ⟨v, m1, m2, σ', e1, e2, g1, g2, g3, f2, f1⟩ := y_read hd hA hk  (z, m) hC hM
  have s1 : m1 bs = _ := (f1 bs (by omega)).trans hm
  have s2 : m2 bs = _ := (f2 bs (by omega) (by omega)).trans hm
  have kb1 : m1 b = _ := (f1 b (by omega)).trans kb
  have z0 : ((2 : Int32) = 0) = False := by decide
  have z1 : ((2 : Int32) = 1) = False := by decide
  refine ⟨m2, σ', ?_, s2, g1, g2, g3⟩
  simp only [q149_26, q149_26N, q149_27, q149_28, q149_29, q149_31, q149_32, q149_194, q149_194N, q149_195, q149_198, q149_198N, q149_199, q149_202, q149_205, q149_206, q149_618, q149_621, rv_v, rv_n, rh_v, mu_at, isF_r, isK_r, fld_r, fset_r, gd0, gd1, gd2, gd3, gd4, gd5, gd6, gd7, gd8, gd9, gd10, gd11, gd12, gd13, inA_l, inW_l, inZ_l, inQ_l, aget_l, aset_l, qget_l, qset_l, isA_l, isA_q, alen_l, k2_i, k2_a, k2_n, k2_u, k2_l, ite_si, Option.isSome_some, List.cons_append, List.nil_append, List.length_cons, List.length_nil, Nat.reduceAdd, Nat.zero_add, Nat.reduceLT, Nat.reduceEqDiff, decide_true, decide_false, Bool.and_self, Bool.and_true, Bool.true_and, ↓reduceIte, List.set_cons_zero, List.set_cons_succ, Nat.reduceSub, Nat.add_left_cancel_iff, Nat.add_eq_left, Nat.left_eq_add, not_true_eq_false, not_false_eq_true, reduceCtorEq, i10, i01, ib10, ib01, beq_self_eq_true, eq_self, Int32.reduceLT, Int32.reduceToNatClampNeg, Int32.reduceAdd, Int32.reduceSub, Int32.reduceMul, Bool.or_true, Bool.true_or, Bool.or_false, Bool.false_or, Nat.reduceBEq, Nat.reduceMul, k1, kb, c0, c1, c2, d0, d1, d2, b0, b1, b2, t2, t3, nI_1, inA_s, hm, hx, s1, kb1, e1, e2, z0, z1]
theorem l_begin (hd : a + 82 ≤ b) (hs : bs < a) (hi : i + 3 ≤ L) (hL : L ≤ 1536) (hm : m bs = .inl (3, L, .inl xs)) (hC : CC m a σ) (hM : MM m b σ) (hA : AI k σ) (hk : k < 600) (hx : xs i &&& 31 = 3) : ∃ m' σ', rn 149 26 [.ref bs, .ref a, .ref b, .int (nI i)] [] (z, m) = rn 149 18 [.ref bs, .ref a, .ref b, .int (nI (i + 3))] [] (z, m') ∧ m' bs = .inl (3, L, .inl xs) ∧ CC m' a σ' ∧ MM m' b σ' ∧ AI (k + 1) σ' := by
  have k1 := hC.1; unfold CO at k1; obtain ⟨v1, v2, v3, v4, v5, v6, v7, v8, v9, v10, v11, v12, v13, kb⟩ := hM.obj; have c0 : ¬ nI i < 0 := nI_pos (by omega); have c1 : (nI i).toNatClampNeg = i := nI_clamp (by omega); have c2 : i < L := (by omega); have d0 : ¬ nI (i + 1) < 0 := nI_pos (by omega); have d1 : (nI (i + 1)).toNatClampNeg = i + 1 := nI_clamp (by omega); have d2 : i + 1 < L := (by omega); have b0 : ¬ nI (i + 2) < 0 := nI_pos (by omega); have b1 : (nI (i + 2)).toNatClampNeg = i + 2 := nI_clamp (by omega); have b2 : i + 2 < L := (by omega); have t2 : nI i + 2 = nI (i + 2) := nI_add i 2; have t3 : nI i + 3 = nI (i + 3) := nI_add i 3
  obtain ⟨v, m1, m2, σ', e1, e2, g1, g2, g3, f2, f1⟩ := y_begin hd hA hk (xs (i + 1)) (xs (i + 2)) (z, m) hC hM
  have s1 : m1 bs = _ := (f1 bs (by omega)).trans hm
  have s2 : m2 bs = _ := (f2 bs (by omega) (by omega)).trans hm
  have kb1 : m1 b = _ := (f1 b (by omega)).trans kb
  have z0 : ((3 : Int32) = 0) = False := by decide
  have z1 : ((3 : Int32) = 1) = False := by decide
  have z2 : ((3 : Int32) = 2) = False := by decide
  refine ⟨m2, σ', ?_, s2, g1, g2, g3⟩
  simp only [q149_26, q149_26N, q149_27, q149_28, q149_29, q149_31, q149_32, q149_207, q149_207N, q149_208, q149_208N, q149_209, q149_210, q149_211, q149_212, q149_213, q149_213N, q149_214, q149_215, q149_216, q149_217, q149_218, q149_221, q149_221N, q149_222, q149_222N, q149_223, q149_224, q149_225, q149_226, q149_227, q149_227N, q149_228, q149_229, q149_230, q149_231, q149_232, q149_235, q149_238, q149_239, q149_618, q149_621, rv_v, rv_n, rh_v, mu_at, isF_r, isK_r, fld_r, fset_r, gd0, gd1, gd2, gd3, gd4, gd5, gd6, gd7, gd8, gd9, gd10, gd11, gd12, gd13, inA_l, inW_l, inZ_l, inQ_l, aget_l, aset_l, qget_l, qset_l, isA_l, isA_q, alen_l, k2_i, k2_a, k2_n, k2_u, k2_l, ite_si, Option.isSome_some, List.cons_append, List.nil_append, List.length_cons, List.length_nil, Nat.reduceAdd, Nat.zero_add, Nat.reduceLT, Nat.reduceEqDiff, decide_true, decide_false, Bool.and_self, Bool.and_true, Bool.true_and, ↓reduceIte, List.set_cons_zero, List.set_cons_succ, Nat.reduceSub, Nat.add_left_cancel_iff, Nat.add_eq_left, Nat.left_eq_add, not_true_eq_false, not_false_eq_true, reduceCtorEq, i10, i01, ib10, ib01, beq_self_eq_true, eq_self, Int32.reduceLT, Int32.reduceToNatClampNeg, Int32.reduceAdd, Int32.reduceSub, Int32.reduceMul, Bool.or_true, Bool.true_or, Bool.or_false, Bool.false_or, Nat.reduceBEq, Nat.reduceMul, k1, kb, c0, c1, c2, d0, d1, d2, b0, b1, b2, t2, t3, nI_1, inA_s, hm, hx, s1, kb1, e1, e2, z0, z1, z2]
theorem l_lay (hd : a + 82 ≤ b) (hs : bs < a) (hi : i + 3 ≤ L) (hL : L ≤ 1536) (hm : m bs = .inl (3, L, .inl xs)) (hC : CC m a σ) (hM : MM m b σ) (hA : AI k σ) (hk : k < 600) (hx : xs i &&& 31 = 4) : ∃ m' σ', rn 149 26 [.ref bs, .ref a, .ref b, .int (nI i)] [] (z, m) = rn 149 18 [.ref bs, .ref a, .ref b, .int (nI (i + 3))] [] (z, m') ∧ m' bs = .inl (3, L, .inl xs) ∧ CC m' a σ' ∧ MM m' b σ' ∧ AI (k + 1) σ' := by
  have k1 := hC.1; unfold CO at k1; obtain ⟨v1, v2, v3, v4, v5, v6, v7, v8, v9, v10, v11, v12, v13, kb⟩ := hM.obj; have c0 : ¬ nI i < 0 := nI_pos (by omega); have c1 : (nI i).toNatClampNeg = i := nI_clamp (by omega); have c2 : i < L := (by omega); have d0 : ¬ nI (i + 1) < 0 := nI_pos (by omega); have d1 : (nI (i + 1)).toNatClampNeg = i + 1 := nI_clamp (by omega); have d2 : i + 1 < L := (by omega); have b0 : ¬ nI (i + 2) < 0 := nI_pos (by omega); have b1 : (nI (i + 2)).toNatClampNeg = i + 2 := nI_clamp (by omega); have b2 : i + 2 < L := (by omega); have t2 : nI i + 2 = nI (i + 2) := nI_add i 2; have t3 : nI i + 3 = nI (i + 3) := nI_add i 3
  obtain ⟨v, m1, m2, σ', e1, e2, g1, g2, g3, f2, f1⟩ := y_lay hd hA hk (xs (i + 1)) (z, m) hC hM
  have s1 : m1 bs = _ := (f1 bs (by omega)).trans hm
  have s2 : m2 bs = _ := (f2 bs (by omega) (by omega)).trans hm
  have kb1 : m1 b = _ := (f1 b (by omega)).trans kb
  have z0 : ((4 : Int32) = 0) = False := by decide
  have z1 : ((4 : Int32) = 1) = False := by decide
  have z2 : ((4 : Int32) = 2) = False := by decide
  have z3 : ((4 : Int32) = 3) = False := by decide
  refine ⟨m2, σ', ?_, s2, g1, g2, g3⟩
  simp only [q149_26, q149_26N, q149_27, q149_28, q149_29, q149_31, q149_32, q149_240, q149_240N, q149_241, q149_241N, q149_242, q149_243, q149_244, q149_245, q149_246, q149_249, q149_249N, q149_250, q149_250N, q149_251, q149_252, q149_253, q149_254, q149_255, q149_258, q149_261, q149_262, q149_618, q149_621, rv_v, rv_n, rh_v, mu_at, isF_r, isK_r, fld_r, fset_r, gd0, gd1, gd2, gd3, gd4, gd5, gd6, gd7, gd8, gd9, gd10, gd11, gd12, gd13, inA_l, inW_l, inZ_l, inQ_l, aget_l, aset_l, qget_l, qset_l, isA_l, isA_q, alen_l, k2_i, k2_a, k2_n, k2_u, k2_l, ite_si, Option.isSome_some, List.cons_append, List.nil_append, List.length_cons, List.length_nil, Nat.reduceAdd, Nat.zero_add, Nat.reduceLT, Nat.reduceEqDiff, decide_true, decide_false, Bool.and_self, Bool.and_true, Bool.true_and, ↓reduceIte, List.set_cons_zero, List.set_cons_succ, Nat.reduceSub, Nat.add_left_cancel_iff, Nat.add_eq_left, Nat.left_eq_add, not_true_eq_false, not_false_eq_true, reduceCtorEq, i10, i01, ib10, ib01, beq_self_eq_true, eq_self, Int32.reduceLT, Int32.reduceToNatClampNeg, Int32.reduceAdd, Int32.reduceSub, Int32.reduceMul, Bool.or_true, Bool.true_or, Bool.or_false, Bool.false_or, Nat.reduceBEq, Nat.reduceMul, k1, kb, c0, c1, c2, d0, d1, d2, b0, b1, b2, t2, t3, nI_1, inA_s, hm, hx, s1, kb1, e1, e2, z0, z1, z2, z3]
theorem l_takeUp (hd : a + 82 ≤ b) (hs : bs < a) (hi : i + 3 ≤ L) (hL : L ≤ 1536) (hm : m bs = .inl (3, L, .inl xs)) (hC : CC m a σ) (hM : MM m b σ) (hA : AI k σ) (hk : k < 600) (hx : xs i &&& 31 = 5) : ∃ m' σ', rn 149 26 [.ref bs, .ref a, .ref b, .int (nI i)] [] (z, m) = rn 149 18 [.ref bs, .ref a, .ref b, .int (nI (i + 3))] [] (z, m') ∧ m' bs = .inl (3, L, .inl xs) ∧ CC m' a σ' ∧ MM m' b σ' ∧ AI (k + 1) σ' := by
  have k1 := hC.1; unfold CO at k1; obtain ⟨v1, v2, v3, v4, v5, v6, v7, v8, v9, v10, v11, v12, v13, kb⟩ := hM.obj; have c0 : ¬ nI i < 0 := nI_pos (by omega); have c1 : (nI i).toNatClampNeg = i := nI_clamp (by omega); have c2 : i < L := (by omega); have d0 : ¬ nI (i + 1) < 0 := nI_pos (by omega); have d1 : (nI (i + 1)).toNatClampNeg = i + 1 := nI_clamp (by omega); have d2 : i + 1 < L := (by omega); have b0 : ¬ nI (i + 2) < 0 := nI_pos (by omega); have b1 : (nI (i + 2)).toNatClampNeg = i + 2 := nI_clamp (by omega); have b2 : i + 2 < L := (by omega); have t2 : nI i + 2 = nI (i + 2) := nI_add i 2; have t3 : nI i + 3 = nI (i + 3) := nI_add i 3
  obtain ⟨v, m1, m2, σ', e1, e2, g1, g2, g3, f2, f1⟩ := y_takeUp hd hA hk (xs (i + 1)) (z, m) hC hM
  have s1 : m1 bs = _ := (f1 bs (by omega)).trans hm
  have s2 : m2 bs = _ := (f2 bs (by omega) (by omega)).trans hm
  have kb1 : m1 b = _ := (f1 b (by omega)).trans kb
  have z0 : ((5 : Int32) = 0) = False := by decide
  have z1 : ((5 : Int32) = 1) = False := by decide
  have z2 : ((5 : Int32) = 2) = False := by decide
  have z3 : ((5 : Int32) = 3) = False := by decide
  have z4 : ((5 : Int32) = 4) = False := by decide
  refine ⟨m2, σ', ?_, s2, g1, g2, g3⟩
  simp only [q149_26, q149_26N, q149_27, q149_28, q149_29, q149_31, q149_32, q149_263, q149_263N, q149_264, q149_264N, q149_265, q149_266, q149_267, q149_268, q149_269, q149_272, q149_272N, q149_273, q149_273N, q149_274, q149_275, q149_276, q149_277, q149_278, q149_281, q149_284, q149_285, q149_618, q149_621, rv_v, rv_n, rh_v, mu_at, isF_r, isK_r, fld_r, fset_r, gd0, gd1, gd2, gd3, gd4, gd5, gd6, gd7, gd8, gd9, gd10, gd11, gd12, gd13, inA_l, inW_l, inZ_l, inQ_l, aget_l, aset_l, qget_l, qset_l, isA_l, isA_q, alen_l, k2_i, k2_a, k2_n, k2_u, k2_l, ite_si, Option.isSome_some, List.cons_append, List.nil_append, List.length_cons, List.length_nil, Nat.reduceAdd, Nat.zero_add, Nat.reduceLT, Nat.reduceEqDiff, decide_true, decide_false, Bool.and_self, Bool.and_true, Bool.true_and, ↓reduceIte, List.set_cons_zero, List.set_cons_succ, Nat.reduceSub, Nat.add_left_cancel_iff, Nat.add_eq_left, Nat.left_eq_add, not_true_eq_false, not_false_eq_true, reduceCtorEq, i10, i01, ib10, ib01, beq_self_eq_true, eq_self, Int32.reduceLT, Int32.reduceToNatClampNeg, Int32.reduceAdd, Int32.reduceSub, Int32.reduceMul, Bool.or_true, Bool.true_or, Bool.or_false, Bool.false_or, Nat.reduceBEq, Nat.reduceMul, k1, kb, c0, c1, c2, d0, d1, d2, b0, b1, b2, t2, t3, nI_1, inA_s, hm, hx, s1, kb1, e1, e2, z0, z1, z2, z3, z4]
theorem l_clear (hd : a + 82 ≤ b) (hs : bs < a) (hi : i + 3 ≤ L) (hL : L ≤ 1536) (hm : m bs = .inl (3, L, .inl xs)) (hC : CC m a σ) (hM : MM m b σ) (hA : AI k σ) (hk : k < 600) (hx : xs i &&& 31 = 6) : ∃ m' σ', rn 149 26 [.ref bs, .ref a, .ref b, .int (nI i)] [] (z, m) = rn 149 18 [.ref bs, .ref a, .ref b, .int (nI (i + 3))] [] (z, m') ∧ m' bs = .inl (3, L, .inl xs) ∧ CC m' a σ' ∧ MM m' b σ' ∧ AI (k + 1) σ' := by
  have k1 := hC.1; unfold CO at k1; obtain ⟨v1, v2, v3, v4, v5, v6, v7, v8, v9, v10, v11, v12, v13, kb⟩ := hM.obj; have c0 : ¬ nI i < 0 := nI_pos (by omega); have c1 : (nI i).toNatClampNeg = i := nI_clamp (by omega); have c2 : i < L := (by omega); have d0 : ¬ nI (i + 1) < 0 := nI_pos (by omega); have d1 : (nI (i + 1)).toNatClampNeg = i + 1 := nI_clamp (by omega); have d2 : i + 1 < L := (by omega); have b0 : ¬ nI (i + 2) < 0 := nI_pos (by omega); have b1 : (nI (i + 2)).toNatClampNeg = i + 2 := nI_clamp (by omega); have b2 : i + 2 < L := (by omega); have t2 : nI i + 2 = nI (i + 2) := nI_add i 2; have t3 : nI i + 3 = nI (i + 3) := nI_add i 3
  obtain ⟨v, m1, m2, σ', e1, e2, g1, g2, g3, f2, f1⟩ := y_clear hd hA hk  (z, m) hC hM
  have s1 : m1 bs = _ := (f1 bs (by omega)).trans hm
  have s2 : m2 bs = _ := (f2 bs (by omega) (by omega)).trans hm
  have kb1 : m1 b = _ := (f1 b (by omega)).trans kb
  have z0 : ((6 : Int32) = 0) = False := by decide
  have z1 : ((6 : Int32) = 1) = False := by decide
  have z2 : ((6 : Int32) = 2) = False := by decide
  have z3 : ((6 : Int32) = 3) = False := by decide
  have z4 : ((6 : Int32) = 4) = False := by decide
  have z5 : ((6 : Int32) = 5) = False := by decide
  refine ⟨m2, σ', ?_, s2, g1, g2, g3⟩
  simp only [q149_26, q149_26N, q149_27, q149_28, q149_29, q149_31, q149_32, q149_286, q149_286N, q149_287, q149_290, q149_290N, q149_291, q149_294, q149_297, q149_298, q149_618, q149_621, rv_v, rv_n, rh_v, mu_at, isF_r, isK_r, fld_r, fset_r, gd0, gd1, gd2, gd3, gd4, gd5, gd6, gd7, gd8, gd9, gd10, gd11, gd12, gd13, inA_l, inW_l, inZ_l, inQ_l, aget_l, aset_l, qget_l, qset_l, isA_l, isA_q, alen_l, k2_i, k2_a, k2_n, k2_u, k2_l, ite_si, Option.isSome_some, List.cons_append, List.nil_append, List.length_cons, List.length_nil, Nat.reduceAdd, Nat.zero_add, Nat.reduceLT, Nat.reduceEqDiff, decide_true, decide_false, Bool.and_self, Bool.and_true, Bool.true_and, ↓reduceIte, List.set_cons_zero, List.set_cons_succ, Nat.reduceSub, Nat.add_left_cancel_iff, Nat.add_eq_left, Nat.left_eq_add, not_true_eq_false, not_false_eq_true, reduceCtorEq, i10, i01, ib10, ib01, beq_self_eq_true, eq_self, Int32.reduceLT, Int32.reduceToNatClampNeg, Int32.reduceAdd, Int32.reduceSub, Int32.reduceMul, Bool.or_true, Bool.true_or, Bool.or_false, Bool.false_or, Nat.reduceBEq, Nat.reduceMul, k1, kb, c0, c1, c2, d0, d1, d2, b0, b1, b2, t2, t3, nI_1, inA_s, hm, hx, s1, kb1, e1, e2, z0, z1, z2, z3, z4, z5]
theorem l_step (hd : a + 82 ≤ b) (hs : bs < a) (hi : i + 3 ≤ L) (hL : L ≤ 1536) (hm : m bs = .inl (3, L, .inl xs)) (hC : CC m a σ) (hM : MM m b σ) (hA : AI k σ) (hk : k < 600) (hx : xs i &&& 31 = 7) : ∃ m' σ', rn 149 26 [.ref bs, .ref a, .ref b, .int (nI i)] [] (z, m) = rn 149 18 [.ref bs, .ref a, .ref b, .int (nI (i + 3))] [] (z, m') ∧ m' bs = .inl (3, L, .inl xs) ∧ CC m' a σ' ∧ MM m' b σ' ∧ AI (k + 1) σ' := by
  have k1 := hC.1; unfold CO at k1; obtain ⟨v1, v2, v3, v4, v5, v6, v7, v8, v9, v10, v11, v12, v13, kb⟩ := hM.obj; have c0 : ¬ nI i < 0 := nI_pos (by omega); have c1 : (nI i).toNatClampNeg = i := nI_clamp (by omega); have c2 : i < L := (by omega); have d0 : ¬ nI (i + 1) < 0 := nI_pos (by omega); have d1 : (nI (i + 1)).toNatClampNeg = i + 1 := nI_clamp (by omega); have d2 : i + 1 < L := (by omega); have b0 : ¬ nI (i + 2) < 0 := nI_pos (by omega); have b1 : (nI (i + 2)).toNatClampNeg = i + 2 := nI_clamp (by omega); have b2 : i + 2 < L := (by omega); have t2 : nI i + 2 = nI (i + 2) := nI_add i 2; have t3 : nI i + 3 = nI (i + 3) := nI_add i 3
  obtain ⟨v, m1, m2, σ', e1, e2, g1, g2, g3, f2, f1⟩ := y_step hd hA hk (xs (i + 1)) (xs (i + 2)) (z, m) hC hM
  have s1 : m1 bs = _ := (f1 bs (by omega)).trans hm
  have s2 : m2 bs = _ := (f2 bs (by omega) (by omega)).trans hm
  have kb1 : m1 b = _ := (f1 b (by omega)).trans kb
  have z0 : ((7 : Int32) = 0) = False := by decide
  have z1 : ((7 : Int32) = 1) = False := by decide
  have z2 : ((7 : Int32) = 2) = False := by decide
  have z3 : ((7 : Int32) = 3) = False := by decide
  have z4 : ((7 : Int32) = 4) = False := by decide
  have z5 : ((7 : Int32) = 5) = False := by decide
  have z6 : ((7 : Int32) = 6) = False := by decide
  refine ⟨m2, σ', ?_, s2, g1, g2, g3⟩
  simp only [q149_26, q149_26N, q149_27, q149_28, q149_29, q149_31, q149_32, q149_299, q149_299N, q149_300, q149_300N, q149_301, q149_302, q149_303, q149_304, q149_305, q149_305N, q149_306, q149_307, q149_308, q149_309, q149_310, q149_313, q149_313N, q149_314, q149_314N, q149_315, q149_316, q149_317, q149_318, q149_319, q149_319N, q149_320, q149_321, q149_322, q149_323, q149_324, q149_327, q149_330, q149_331, q149_618, q149_621, rv_v, rv_n, rh_v, mu_at, isF_r, isK_r, fld_r, fset_r, gd0, gd1, gd2, gd3, gd4, gd5, gd6, gd7, gd8, gd9, gd10, gd11, gd12, gd13, inA_l, inW_l, inZ_l, inQ_l, aget_l, aset_l, qget_l, qset_l, isA_l, isA_q, alen_l, k2_i, k2_a, k2_n, k2_u, k2_l, ite_si, Option.isSome_some, List.cons_append, List.nil_append, List.length_cons, List.length_nil, Nat.reduceAdd, Nat.zero_add, Nat.reduceLT, Nat.reduceEqDiff, decide_true, decide_false, Bool.and_self, Bool.and_true, Bool.true_and, ↓reduceIte, List.set_cons_zero, List.set_cons_succ, Nat.reduceSub, Nat.add_left_cancel_iff, Nat.add_eq_left, Nat.left_eq_add, not_true_eq_false, not_false_eq_true, reduceCtorEq, i10, i01, ib10, ib01, beq_self_eq_true, eq_self, Int32.reduceLT, Int32.reduceToNatClampNeg, Int32.reduceAdd, Int32.reduceSub, Int32.reduceMul, Bool.or_true, Bool.true_or, Bool.or_false, Bool.false_or, Nat.reduceBEq, Nat.reduceMul, k1, kb, c0, c1, c2, d0, d1, d2, b0, b1, b2, t2, t3, nI_1, inA_s, hm, hx, s1, kb1, e1, e2, z0, z1, z2, z3, z4, z5, z6]
theorem l_crew (hd : a + 82 ≤ b) (hs : bs < a) (hi : i + 3 ≤ L) (hL : L ≤ 1536) (hm : m bs = .inl (3, L, .inl xs)) (hC : CC m a σ) (hM : MM m b σ) (hA : AI k σ) (hk : k < 600) (hx : xs i &&& 31 = 8) : ∃ m' σ', rn 149 26 [.ref bs, .ref a, .ref b, .int (nI i)] [] (z, m) = rn 149 18 [.ref bs, .ref a, .ref b, .int (nI (i + 3))] [] (z, m') ∧ m' bs = .inl (3, L, .inl xs) ∧ CC m' a σ' ∧ MM m' b σ' ∧ AI (k + 1) σ' := by
  have k1 := hC.1; unfold CO at k1; obtain ⟨v1, v2, v3, v4, v5, v6, v7, v8, v9, v10, v11, v12, v13, kb⟩ := hM.obj; have c0 : ¬ nI i < 0 := nI_pos (by omega); have c1 : (nI i).toNatClampNeg = i := nI_clamp (by omega); have c2 : i < L := (by omega); have d0 : ¬ nI (i + 1) < 0 := nI_pos (by omega); have d1 : (nI (i + 1)).toNatClampNeg = i + 1 := nI_clamp (by omega); have d2 : i + 1 < L := (by omega); have b0 : ¬ nI (i + 2) < 0 := nI_pos (by omega); have b1 : (nI (i + 2)).toNatClampNeg = i + 2 := nI_clamp (by omega); have b2 : i + 2 < L := (by omega); have t2 : nI i + 2 = nI (i + 2) := nI_add i 2; have t3 : nI i + 3 = nI (i + 3) := nI_add i 3
  obtain ⟨v, m1, m2, σ', e1, e2, g1, g2, g3, f2, f1⟩ := y_crew hd hA hk (xs (i + 1)) (xs (i + 2)) (z, m) hC hM
  have s1 : m1 bs = _ := (f1 bs (by omega)).trans hm
  have s2 : m2 bs = _ := (f2 bs (by omega) (by omega)).trans hm
  have kb1 : m1 b = _ := (f1 b (by omega)).trans kb
  have z0 : ((8 : Int32) = 0) = False := by decide
  have z1 : ((8 : Int32) = 1) = False := by decide
  have z2 : ((8 : Int32) = 2) = False := by decide
  have z3 : ((8 : Int32) = 3) = False := by decide
  have z4 : ((8 : Int32) = 4) = False := by decide
  have z5 : ((8 : Int32) = 5) = False := by decide
  have z6 : ((8 : Int32) = 6) = False := by decide
  have z7 : ((8 : Int32) = 7) = False := by decide
  refine ⟨m2, σ', ?_, s2, g1, g2, g3⟩
  simp only [q149_26, q149_26N, q149_27, q149_28, q149_29, q149_31, q149_32, q149_332, q149_332N, q149_333, q149_333N, q149_334, q149_335, q149_336, q149_337, q149_338, q149_338N, q149_339, q149_340, q149_341, q149_342, q149_343, q149_346, q149_346N, q149_347, q149_347N, q149_348, q149_349, q149_350, q149_351, q149_352, q149_352N, q149_353, q149_354, q149_355, q149_356, q149_357, q149_360, q149_363, q149_364, q149_618, q149_621, rv_v, rv_n, rh_v, mu_at, isF_r, isK_r, fld_r, fset_r, gd0, gd1, gd2, gd3, gd4, gd5, gd6, gd7, gd8, gd9, gd10, gd11, gd12, gd13, inA_l, inW_l, inZ_l, inQ_l, aget_l, aset_l, qget_l, qset_l, isA_l, isA_q, alen_l, k2_i, k2_a, k2_n, k2_u, k2_l, ite_si, Option.isSome_some, List.cons_append, List.nil_append, List.length_cons, List.length_nil, Nat.reduceAdd, Nat.zero_add, Nat.reduceLT, Nat.reduceEqDiff, decide_true, decide_false, Bool.and_self, Bool.and_true, Bool.true_and, ↓reduceIte, List.set_cons_zero, List.set_cons_succ, Nat.reduceSub, Nat.add_left_cancel_iff, Nat.add_eq_left, Nat.left_eq_add, not_true_eq_false, not_false_eq_true, reduceCtorEq, i10, i01, ib10, ib01, beq_self_eq_true, eq_self, Int32.reduceLT, Int32.reduceToNatClampNeg, Int32.reduceAdd, Int32.reduceSub, Int32.reduceMul, Bool.or_true, Bool.true_or, Bool.or_false, Bool.false_or, Nat.reduceBEq, Nat.reduceMul, k1, kb, c0, c1, c2, d0, d1, d2, b0, b1, b2, t2, t3, nI_1, inA_s, hm, hx, s1, kb1, e1, e2, z0, z1, z2, z3, z4, z5, z6, z7]
theorem l_count (hd : a + 82 ≤ b) (hs : bs < a) (hi : i + 3 ≤ L) (hL : L ≤ 1536) (hm : m bs = .inl (3, L, .inl xs)) (hC : CC m a σ) (hM : MM m b σ) (hA : AI k σ) (hk : k < 600) (hx : xs i &&& 31 = 9) : ∃ m' σ', rn 149 26 [.ref bs, .ref a, .ref b, .int (nI i)] [] (z, m) = rn 149 18 [.ref bs, .ref a, .ref b, .int (nI (i + 3))] [] (z, m') ∧ m' bs = .inl (3, L, .inl xs) ∧ CC m' a σ' ∧ MM m' b σ' ∧ AI (k + 1) σ' := by
  have k1 := hC.1; unfold CO at k1; obtain ⟨v1, v2, v3, v4, v5, v6, v7, v8, v9, v10, v11, v12, v13, kb⟩ := hM.obj; have c0 : ¬ nI i < 0 := nI_pos (by omega); have c1 : (nI i).toNatClampNeg = i := nI_clamp (by omega); have c2 : i < L := (by omega); have d0 : ¬ nI (i + 1) < 0 := nI_pos (by omega); have d1 : (nI (i + 1)).toNatClampNeg = i + 1 := nI_clamp (by omega); have d2 : i + 1 < L := (by omega); have b0 : ¬ nI (i + 2) < 0 := nI_pos (by omega); have b1 : (nI (i + 2)).toNatClampNeg = i + 2 := nI_clamp (by omega); have b2 : i + 2 < L := (by omega); have t2 : nI i + 2 = nI (i + 2) := nI_add i 2; have t3 : nI i + 3 = nI (i + 3) := nI_add i 3
  obtain ⟨v, m1, m2, σ', e1, e2, g1, g2, g3, f2, f1⟩ := y_count hd hA hk (xs (i + 1)) (z, m) hC hM
  have s1 : m1 bs = _ := (f1 bs (by omega)).trans hm
  have s2 : m2 bs = _ := (f2 bs (by omega) (by omega)).trans hm
  have kb1 : m1 b = _ := (f1 b (by omega)).trans kb
  have z0 : ((9 : Int32) = 0) = False := by decide
  have z1 : ((9 : Int32) = 1) = False := by decide
  have z2 : ((9 : Int32) = 2) = False := by decide
  have z3 : ((9 : Int32) = 3) = False := by decide
  have z4 : ((9 : Int32) = 4) = False := by decide
  have z5 : ((9 : Int32) = 5) = False := by decide
  have z6 : ((9 : Int32) = 6) = False := by decide
  have z7 : ((9 : Int32) = 7) = False := by decide
  have z8 : ((9 : Int32) = 8) = False := by decide
  refine ⟨m2, σ', ?_, s2, g1, g2, g3⟩
  simp only [q149_26, q149_26N, q149_27, q149_28, q149_29, q149_31, q149_32, q149_365, q149_365N, q149_366, q149_366N, q149_367, q149_368, q149_369, q149_370, q149_371, q149_374, q149_374N, q149_375, q149_375N, q149_376, q149_377, q149_378, q149_379, q149_380, q149_383, q149_386, q149_387, q149_618, q149_621, rv_v, rv_n, rh_v, mu_at, isF_r, isK_r, fld_r, fset_r, gd0, gd1, gd2, gd3, gd4, gd5, gd6, gd7, gd8, gd9, gd10, gd11, gd12, gd13, inA_l, inW_l, inZ_l, inQ_l, aget_l, aset_l, qget_l, qset_l, isA_l, isA_q, alen_l, k2_i, k2_a, k2_n, k2_u, k2_l, ite_si, Option.isSome_some, List.cons_append, List.nil_append, List.length_cons, List.length_nil, Nat.reduceAdd, Nat.zero_add, Nat.reduceLT, Nat.reduceEqDiff, decide_true, decide_false, Bool.and_self, Bool.and_true, Bool.true_and, ↓reduceIte, List.set_cons_zero, List.set_cons_succ, Nat.reduceSub, Nat.add_left_cancel_iff, Nat.add_eq_left, Nat.left_eq_add, not_true_eq_false, not_false_eq_true, reduceCtorEq, i10, i01, ib10, ib01, beq_self_eq_true, eq_self, Int32.reduceLT, Int32.reduceToNatClampNeg, Int32.reduceAdd, Int32.reduceSub, Int32.reduceMul, Bool.or_true, Bool.true_or, Bool.or_false, Bool.false_or, Nat.reduceBEq, Nat.reduceMul, k1, kb, c0, c1, c2, d0, d1, d2, b0, b1, b2, t2, t3, nI_1, inA_s, hm, hx, s1, kb1, e1, e2, z0, z1, z2, z3, z4, z5, z6, z7, z8]
theorem l_ifMet (hd : a + 82 ≤ b) (hs : bs < a) (hi : i + 3 ≤ L) (hL : L ≤ 1536) (hm : m bs = .inl (3, L, .inl xs)) (hC : CC m a σ) (hM : MM m b σ) (hA : AI k σ) (hk : k < 600) (hx : xs i &&& 31 = 10) : ∃ m' σ', rn 149 26 [.ref bs, .ref a, .ref b, .int (nI i)] [] (z, m) = rn 149 18 [.ref bs, .ref a, .ref b, .int (nI (i + 3))] [] (z, m') ∧ m' bs = .inl (3, L, .inl xs) ∧ CC m' a σ' ∧ MM m' b σ' ∧ AI (k + 1) σ' := by
  have k1 := hC.1; unfold CO at k1; obtain ⟨v1, v2, v3, v4, v5, v6, v7, v8, v9, v10, v11, v12, v13, kb⟩ := hM.obj; have c0 : ¬ nI i < 0 := nI_pos (by omega); have c1 : (nI i).toNatClampNeg = i := nI_clamp (by omega); have c2 : i < L := (by omega); have d0 : ¬ nI (i + 1) < 0 := nI_pos (by omega); have d1 : (nI (i + 1)).toNatClampNeg = i + 1 := nI_clamp (by omega); have d2 : i + 1 < L := (by omega); have b0 : ¬ nI (i + 2) < 0 := nI_pos (by omega); have b1 : (nI (i + 2)).toNatClampNeg = i + 2 := nI_clamp (by omega); have b2 : i + 2 < L := (by omega); have t2 : nI i + 2 = nI (i + 2) := nI_add i 2; have t3 : nI i + 3 = nI (i + 3) := nI_add i 3
  obtain ⟨v, m1, m2, σ', e1, e2, g1, g2, g3, f2, f1⟩ := y_ifMet hd hA hk (xs (i + 1)) (xs (i + 2)) (z, m) hC hM
  have s1 : m1 bs = _ := (f1 bs (by omega)).trans hm
  have s2 : m2 bs = _ := (f2 bs (by omega) (by omega)).trans hm
  have kb1 : m1 b = _ := (f1 b (by omega)).trans kb
  have z0 : ((10 : Int32) = 0) = False := by decide
  have z1 : ((10 : Int32) = 1) = False := by decide
  have z2 : ((10 : Int32) = 2) = False := by decide
  have z3 : ((10 : Int32) = 3) = False := by decide
  have z4 : ((10 : Int32) = 4) = False := by decide
  have z5 : ((10 : Int32) = 5) = False := by decide
  have z6 : ((10 : Int32) = 6) = False := by decide
  have z7 : ((10 : Int32) = 7) = False := by decide
  have z8 : ((10 : Int32) = 8) = False := by decide
  have z9 : ((10 : Int32) = 9) = False := by decide
  refine ⟨m2, σ', ?_, s2, g1, g2, g3⟩
  simp only [q149_26, q149_26N, q149_27, q149_28, q149_29, q149_31, q149_32, q149_388, q149_388N, q149_389, q149_389N, q149_390, q149_391, q149_392, q149_393, q149_394, q149_394N, q149_395, q149_396, q149_397, q149_398, q149_399, q149_402, q149_402N, q149_403, q149_403N, q149_404, q149_405, q149_406, q149_407, q149_408, q149_408N, q149_409, q149_410, q149_411, q149_412, q149_413, q149_416, q149_419, q149_420, q149_618, q149_621, rv_v, rv_n, rh_v, mu_at, isF_r, isK_r, fld_r, fset_r, gd0, gd1, gd2, gd3, gd4, gd5, gd6, gd7, gd8, gd9, gd10, gd11, gd12, gd13, inA_l, inW_l, inZ_l, inQ_l, aget_l, aset_l, qget_l, qset_l, isA_l, isA_q, alen_l, k2_i, k2_a, k2_n, k2_u, k2_l, ite_si, Option.isSome_some, List.cons_append, List.nil_append, List.length_cons, List.length_nil, Nat.reduceAdd, Nat.zero_add, Nat.reduceLT, Nat.reduceEqDiff, decide_true, decide_false, Bool.and_self, Bool.and_true, Bool.true_and, ↓reduceIte, List.set_cons_zero, List.set_cons_succ, Nat.reduceSub, Nat.add_left_cancel_iff, Nat.add_eq_left, Nat.left_eq_add, not_true_eq_false, not_false_eq_true, reduceCtorEq, i10, i01, ib10, ib01, beq_self_eq_true, eq_self, Int32.reduceLT, Int32.reduceToNatClampNeg, Int32.reduceAdd, Int32.reduceSub, Int32.reduceMul, Bool.or_true, Bool.true_or, Bool.or_false, Bool.false_or, Nat.reduceBEq, Nat.reduceMul, k1, kb, c0, c1, c2, d0, d1, d2, b0, b1, b2, t2, t3, nI_1, inA_s, hm, hx, s1, kb1, e1, e2, z0, z1, z2, z3, z4, z5, z6, z7, z8, z9]
theorem l_bestBeginning (hd : a + 82 ≤ b) (hs : bs < a) (hi : i + 3 ≤ L) (hL : L ≤ 1536) (hm : m bs = .inl (3, L, .inl xs)) (hC : CC m a σ) (hM : MM m b σ) (hA : AI k σ) (hk : k < 600) (hx : xs i &&& 31 = 11) : ∃ m' σ', rn 149 26 [.ref bs, .ref a, .ref b, .int (nI i)] [] (z, m) = rn 149 18 [.ref bs, .ref a, .ref b, .int (nI (i + 3))] [] (z, m') ∧ m' bs = .inl (3, L, .inl xs) ∧ CC m' a σ' ∧ MM m' b σ' ∧ AI (k + 1) σ' := by
  have k1 := hC.1; unfold CO at k1; obtain ⟨v1, v2, v3, v4, v5, v6, v7, v8, v9, v10, v11, v12, v13, kb⟩ := hM.obj; have c0 : ¬ nI i < 0 := nI_pos (by omega); have c1 : (nI i).toNatClampNeg = i := nI_clamp (by omega); have c2 : i < L := (by omega); have d0 : ¬ nI (i + 1) < 0 := nI_pos (by omega); have d1 : (nI (i + 1)).toNatClampNeg = i + 1 := nI_clamp (by omega); have d2 : i + 1 < L := (by omega); have b0 : ¬ nI (i + 2) < 0 := nI_pos (by omega); have b1 : (nI (i + 2)).toNatClampNeg = i + 2 := nI_clamp (by omega); have b2 : i + 2 < L := (by omega); have t2 : nI i + 2 = nI (i + 2) := nI_add i 2; have t3 : nI i + 3 = nI (i + 3) := nI_add i 3
  obtain ⟨v, m1, m2, σ', e1, e2, g1, g2, g3, f2, f1⟩ := y_bestBeginning hd hA hk (xs (i + 1)) (z, m) hC hM
  have s1 : m1 bs = _ := (f1 bs (by omega)).trans hm
  have s2 : m2 bs = _ := (f2 bs (by omega) (by omega)).trans hm
  have kb1 : m1 b = _ := (f1 b (by omega)).trans kb
  have z0 : ((11 : Int32) = 0) = False := by decide
  have z1 : ((11 : Int32) = 1) = False := by decide
  have z2 : ((11 : Int32) = 2) = False := by decide
  have z3 : ((11 : Int32) = 3) = False := by decide
  have z4 : ((11 : Int32) = 4) = False := by decide
  have z5 : ((11 : Int32) = 5) = False := by decide
  have z6 : ((11 : Int32) = 6) = False := by decide
  have z7 : ((11 : Int32) = 7) = False := by decide
  have z8 : ((11 : Int32) = 8) = False := by decide
  have z9 : ((11 : Int32) = 9) = False := by decide
  have z10 : ((11 : Int32) = 10) = False := by decide
  refine ⟨m2, σ', ?_, s2, g1, g2, g3⟩
  simp only [q149_26, q149_26N, q149_27, q149_28, q149_29, q149_31, q149_32, q149_421, q149_421N, q149_422, q149_422N, q149_423, q149_424, q149_425, q149_426, q149_427, q149_430, q149_430N, q149_431, q149_431N, q149_432, q149_433, q149_434, q149_435, q149_436, q149_439, q149_442, q149_443, q149_618, q149_621, rv_v, rv_n, rh_v, mu_at, isF_r, isK_r, fld_r, fset_r, gd0, gd1, gd2, gd3, gd4, gd5, gd6, gd7, gd8, gd9, gd10, gd11, gd12, gd13, inA_l, inW_l, inZ_l, inQ_l, aget_l, aset_l, qget_l, qset_l, isA_l, isA_q, alen_l, k2_i, k2_a, k2_n, k2_u, k2_l, ite_si, Option.isSome_some, List.cons_append, List.nil_append, List.length_cons, List.length_nil, Nat.reduceAdd, Nat.zero_add, Nat.reduceLT, Nat.reduceEqDiff, decide_true, decide_false, Bool.and_self, Bool.and_true, Bool.true_and, ↓reduceIte, List.set_cons_zero, List.set_cons_succ, Nat.reduceSub, Nat.add_left_cancel_iff, Nat.add_eq_left, Nat.left_eq_add, not_true_eq_false, not_false_eq_true, reduceCtorEq, i10, i01, ib10, ib01, beq_self_eq_true, eq_self, Int32.reduceLT, Int32.reduceToNatClampNeg, Int32.reduceAdd, Int32.reduceSub, Int32.reduceMul, Bool.or_true, Bool.true_or, Bool.or_false, Bool.false_or, Nat.reduceBEq, Nat.reduceMul, k1, kb, c0, c1, c2, d0, d1, d2, b0, b1, b2, t2, t3, nI_1, inA_s, hm, hx, s1, kb1, e1, e2, z0, z1, z2, z3, z4, z5, z6, z7, z8, z9, z10]
theorem l_ifLaid (hd : a + 82 ≤ b) (hs : bs < a) (hi : i + 3 ≤ L) (hL : L ≤ 1536) (hm : m bs = .inl (3, L, .inl xs)) (hC : CC m a σ) (hM : MM m b σ) (hA : AI k σ) (hk : k < 600) (hx : xs i &&& 31 = 12) : ∃ m' σ', rn 149 26 [.ref bs, .ref a, .ref b, .int (nI i)] [] (z, m) = rn 149 18 [.ref bs, .ref a, .ref b, .int (nI (i + 3))] [] (z, m') ∧ m' bs = .inl (3, L, .inl xs) ∧ CC m' a σ' ∧ MM m' b σ' ∧ AI (k + 1) σ' := by
  have k1 := hC.1; unfold CO at k1; obtain ⟨v1, v2, v3, v4, v5, v6, v7, v8, v9, v10, v11, v12, v13, kb⟩ := hM.obj; have c0 : ¬ nI i < 0 := nI_pos (by omega); have c1 : (nI i).toNatClampNeg = i := nI_clamp (by omega); have c2 : i < L := (by omega); have d0 : ¬ nI (i + 1) < 0 := nI_pos (by omega); have d1 : (nI (i + 1)).toNatClampNeg = i + 1 := nI_clamp (by omega); have d2 : i + 1 < L := (by omega); have b0 : ¬ nI (i + 2) < 0 := nI_pos (by omega); have b1 : (nI (i + 2)).toNatClampNeg = i + 2 := nI_clamp (by omega); have b2 : i + 2 < L := (by omega); have t2 : nI i + 2 = nI (i + 2) := nI_add i 2; have t3 : nI i + 3 = nI (i + 3) := nI_add i 3
  obtain ⟨v, m1, m2, σ', e1, e2, g1, g2, g3, f2, f1⟩ := y_ifLaid hd hA hk (xs (i + 1)) (z, m) hC hM
  have s1 : m1 bs = _ := (f1 bs (by omega)).trans hm
  have s2 : m2 bs = _ := (f2 bs (by omega) (by omega)).trans hm
  have kb1 : m1 b = _ := (f1 b (by omega)).trans kb
  have z0 : ((12 : Int32) = 0) = False := by decide
  have z1 : ((12 : Int32) = 1) = False := by decide
  have z2 : ((12 : Int32) = 2) = False := by decide
  have z3 : ((12 : Int32) = 3) = False := by decide
  have z4 : ((12 : Int32) = 4) = False := by decide
  have z5 : ((12 : Int32) = 5) = False := by decide
  have z6 : ((12 : Int32) = 6) = False := by decide
  have z7 : ((12 : Int32) = 7) = False := by decide
  have z8 : ((12 : Int32) = 8) = False := by decide
  have z9 : ((12 : Int32) = 9) = False := by decide
  have z10 : ((12 : Int32) = 10) = False := by decide
  have z11 : ((12 : Int32) = 11) = False := by decide
  refine ⟨m2, σ', ?_, s2, g1, g2, g3⟩
  simp only [q149_26, q149_26N, q149_27, q149_28, q149_29, q149_31, q149_32, q149_444, q149_444N, q149_445, q149_445N, q149_446, q149_447, q149_448, q149_449, q149_450, q149_453, q149_453N, q149_454, q149_454N, q149_455, q149_456, q149_457, q149_458, q149_459, q149_462, q149_465, q149_466, q149_618, q149_621, rv_v, rv_n, rh_v, mu_at, isF_r, isK_r, fld_r, fset_r, gd0, gd1, gd2, gd3, gd4, gd5, gd6, gd7, gd8, gd9, gd10, gd11, gd12, gd13, inA_l, inW_l, inZ_l, inQ_l, aget_l, aset_l, qget_l, qset_l, isA_l, isA_q, alen_l, k2_i, k2_a, k2_n, k2_u, k2_l, ite_si, Option.isSome_some, List.cons_append, List.nil_append, List.length_cons, List.length_nil, Nat.reduceAdd, Nat.zero_add, Nat.reduceLT, Nat.reduceEqDiff, decide_true, decide_false, Bool.and_self, Bool.and_true, Bool.true_and, ↓reduceIte, List.set_cons_zero, List.set_cons_succ, Nat.reduceSub, Nat.add_left_cancel_iff, Nat.add_eq_left, Nat.left_eq_add, not_true_eq_false, not_false_eq_true, reduceCtorEq, i10, i01, ib10, ib01, beq_self_eq_true, eq_self, Int32.reduceLT, Int32.reduceToNatClampNeg, Int32.reduceAdd, Int32.reduceSub, Int32.reduceMul, Bool.or_true, Bool.true_or, Bool.or_false, Bool.false_or, Nat.reduceBEq, Nat.reduceMul, k1, kb, c0, c1, c2, d0, d1, d2, b0, b1, b2, t2, t3, nI_1, inA_s, hm, hx, s1, kb1, e1, e2, z0, z1, z2, z3, z4, z5, z6, z7, z8, z9, z10, z11]
theorem l_leastTrim (hd : a + 82 ≤ b) (hs : bs < a) (hi : i + 3 ≤ L) (hL : L ≤ 1536) (hm : m bs = .inl (3, L, .inl xs)) (hC : CC m a σ) (hM : MM m b σ) (hA : AI k σ) (hk : k < 600) (hx : xs i &&& 31 = 13) : ∃ m' σ', rn 149 26 [.ref bs, .ref a, .ref b, .int (nI i)] [] (z, m) = rn 149 18 [.ref bs, .ref a, .ref b, .int (nI (i + 3))] [] (z, m') ∧ m' bs = .inl (3, L, .inl xs) ∧ CC m' a σ' ∧ MM m' b σ' ∧ AI (k + 1) σ' := by
  have k1 := hC.1; unfold CO at k1; obtain ⟨v1, v2, v3, v4, v5, v6, v7, v8, v9, v10, v11, v12, v13, kb⟩ := hM.obj; have c0 : ¬ nI i < 0 := nI_pos (by omega); have c1 : (nI i).toNatClampNeg = i := nI_clamp (by omega); have c2 : i < L := (by omega); have d0 : ¬ nI (i + 1) < 0 := nI_pos (by omega); have d1 : (nI (i + 1)).toNatClampNeg = i + 1 := nI_clamp (by omega); have d2 : i + 1 < L := (by omega); have b0 : ¬ nI (i + 2) < 0 := nI_pos (by omega); have b1 : (nI (i + 2)).toNatClampNeg = i + 2 := nI_clamp (by omega); have b2 : i + 2 < L := (by omega); have t2 : nI i + 2 = nI (i + 2) := nI_add i 2; have t3 : nI i + 3 = nI (i + 3) := nI_add i 3
  obtain ⟨v, m1, m2, σ', e1, e2, g1, g2, g3, f2, f1⟩ := y_leastTrim hd hA hk  (z, m) hC hM
  have s1 : m1 bs = _ := (f1 bs (by omega)).trans hm
  have s2 : m2 bs = _ := (f2 bs (by omega) (by omega)).trans hm
  have kb1 : m1 b = _ := (f1 b (by omega)).trans kb
  have z0 : ((13 : Int32) = 0) = False := by decide
  have z1 : ((13 : Int32) = 1) = False := by decide
  have z2 : ((13 : Int32) = 2) = False := by decide
  have z3 : ((13 : Int32) = 3) = False := by decide
  have z4 : ((13 : Int32) = 4) = False := by decide
  have z5 : ((13 : Int32) = 5) = False := by decide
  have z6 : ((13 : Int32) = 6) = False := by decide
  have z7 : ((13 : Int32) = 7) = False := by decide
  have z8 : ((13 : Int32) = 8) = False := by decide
  have z9 : ((13 : Int32) = 9) = False := by decide
  have z10 : ((13 : Int32) = 10) = False := by decide
  have z11 : ((13 : Int32) = 11) = False := by decide
  have z12 : ((13 : Int32) = 12) = False := by decide
  refine ⟨m2, σ', ?_, s2, g1, g2, g3⟩
  simp only [q149_26, q149_26N, q149_27, q149_28, q149_29, q149_31, q149_32, q149_467, q149_467N, q149_468, q149_471, q149_471N, q149_472, q149_475, q149_478, q149_479, q149_618, q149_621, rv_v, rv_n, rh_v, mu_at, isF_r, isK_r, fld_r, fset_r, gd0, gd1, gd2, gd3, gd4, gd5, gd6, gd7, gd8, gd9, gd10, gd11, gd12, gd13, inA_l, inW_l, inZ_l, inQ_l, aget_l, aset_l, qget_l, qset_l, isA_l, isA_q, alen_l, k2_i, k2_a, k2_n, k2_u, k2_l, ite_si, Option.isSome_some, List.cons_append, List.nil_append, List.length_cons, List.length_nil, Nat.reduceAdd, Nat.zero_add, Nat.reduceLT, Nat.reduceEqDiff, decide_true, decide_false, Bool.and_self, Bool.and_true, Bool.true_and, ↓reduceIte, List.set_cons_zero, List.set_cons_succ, Nat.reduceSub, Nat.add_left_cancel_iff, Nat.add_eq_left, Nat.left_eq_add, not_true_eq_false, not_false_eq_true, reduceCtorEq, i10, i01, ib10, ib01, beq_self_eq_true, eq_self, Int32.reduceLT, Int32.reduceToNatClampNeg, Int32.reduceAdd, Int32.reduceSub, Int32.reduceMul, Bool.or_true, Bool.true_or, Bool.or_false, Bool.false_or, Nat.reduceBEq, Nat.reduceMul, k1, kb, c0, c1, c2, d0, d1, d2, b0, b1, b2, t2, t3, nI_1, inA_s, hm, hx, s1, kb1, e1, e2, z0, z1, z2, z3, z4, z5, z6, z7, z8, z9, z10, z11, z12]
theorem l_put (hd : a + 82 ≤ b) (hs : bs < a) (hi : i + 3 ≤ L) (hL : L ≤ 1536) (hm : m bs = .inl (3, L, .inl xs)) (hC : CC m a σ) (hM : MM m b σ) (hA : AI k σ) (hk : k < 600) (hx : xs i &&& 31 = 14) : ∃ m' σ', rn 149 26 [.ref bs, .ref a, .ref b, .int (nI i)] [] (z, m) = rn 149 18 [.ref bs, .ref a, .ref b, .int (nI (i + 3))] [] (z, m') ∧ m' bs = .inl (3, L, .inl xs) ∧ CC m' a σ' ∧ MM m' b σ' ∧ AI (k + 1) σ' := by
  have k1 := hC.1; unfold CO at k1; obtain ⟨v1, v2, v3, v4, v5, v6, v7, v8, v9, v10, v11, v12, v13, kb⟩ := hM.obj; have c0 : ¬ nI i < 0 := nI_pos (by omega); have c1 : (nI i).toNatClampNeg = i := nI_clamp (by omega); have c2 : i < L := (by omega); have d0 : ¬ nI (i + 1) < 0 := nI_pos (by omega); have d1 : (nI (i + 1)).toNatClampNeg = i + 1 := nI_clamp (by omega); have d2 : i + 1 < L := (by omega); have b0 : ¬ nI (i + 2) < 0 := nI_pos (by omega); have b1 : (nI (i + 2)).toNatClampNeg = i + 2 := nI_clamp (by omega); have b2 : i + 2 < L := (by omega); have t2 : nI i + 2 = nI (i + 2) := nI_add i 2; have t3 : nI i + 3 = nI (i + 3) := nI_add i 3
  obtain ⟨v, m1, m2, σ', e1, e2, g1, g2, g3, f2, f1⟩ := y_put hd hA hk ((xs (i + 1)).toInt64 <<< ((32 : Int32).toInt64 &&& 63) ||| ((xs (i + 2)).toInt64 &&& 4294967295)) (z, m) hC hM
  have s1 : m1 bs = _ := (f1 bs (by omega)).trans hm
  have s2 : m2 bs = _ := (f2 bs (by omega) (by omega)).trans hm
  have kb1 : m1 b = _ := (f1 b (by omega)).trans kb
  have z0 : ((14 : Int32) = 0) = False := by decide
  have z1 : ((14 : Int32) = 1) = False := by decide
  have z2 : ((14 : Int32) = 2) = False := by decide
  have z3 : ((14 : Int32) = 3) = False := by decide
  have z4 : ((14 : Int32) = 4) = False := by decide
  have z5 : ((14 : Int32) = 5) = False := by decide
  have z6 : ((14 : Int32) = 6) = False := by decide
  have z7 : ((14 : Int32) = 7) = False := by decide
  have z8 : ((14 : Int32) = 8) = False := by decide
  have z9 : ((14 : Int32) = 9) = False := by decide
  have z10 : ((14 : Int32) = 10) = False := by decide
  have z11 : ((14 : Int32) = 11) = False := by decide
  have z12 : ((14 : Int32) = 12) = False := by decide
  have z13 : ((14 : Int32) = 13) = False := by decide
  refine ⟨m2, σ', ?_, s2, g1, g2, g3⟩
  simp only [q149_26, q149_26N, q149_27, q149_28, q149_29, q149_31, q149_32, q149_480, q149_480N, q149_481, q149_481N, q149_482, q149_483, q149_484, q149_485, q149_486, q149_487, q149_489, q149_490, q149_490N, q149_491, q149_492, q149_493, q149_494, q149_495, q149_496, q149_499, q149_500, q149_501, q149_504, q149_504N, q149_505, q149_505N, q149_506, q149_507, q149_508, q149_509, q149_510, q149_511, q149_513, q149_514, q149_514N, q149_515, q149_516, q149_517, q149_518, q149_519, q149_520, q149_523, q149_524, q149_525, q149_528, q149_531, q149_532, q149_618, q149_621, rv_v, rv_n, rh_v, mu_at, isF_r, isK_r, fld_r, fset_r, gd0, gd1, gd2, gd3, gd4, gd5, gd6, gd7, gd8, gd9, gd10, gd11, gd12, gd13, inA_l, inW_l, inZ_l, inQ_l, aget_l, aset_l, qget_l, qset_l, isA_l, isA_q, alen_l, k2_i, k2_a, k2_n, k2_u, k2_l, ite_si, Option.isSome_some, List.cons_append, List.nil_append, List.length_cons, List.length_nil, Nat.reduceAdd, Nat.zero_add, Nat.reduceLT, Nat.reduceEqDiff, decide_true, decide_false, Bool.and_self, Bool.and_true, Bool.true_and, ↓reduceIte, List.set_cons_zero, List.set_cons_succ, Nat.reduceSub, Nat.add_left_cancel_iff, Nat.add_eq_left, Nat.left_eq_add, not_true_eq_false, not_false_eq_true, reduceCtorEq, i10, i01, ib10, ib01, beq_self_eq_true, eq_self, Int32.reduceLT, Int32.reduceToNatClampNeg, Int32.reduceAdd, Int32.reduceSub, Int32.reduceMul, Bool.or_true, Bool.true_or, Bool.or_false, Bool.false_or, Nat.reduceBEq, Nat.reduceMul, k1, kb, c0, c1, c2, d0, d1, d2, b0, b1, b2, t2, t3, nI_1, inA_s, hm, hx, s1, kb1, e1, e2, z0, z1, z2, z3, z4, z5, z6, z7, z8, z9, z10, z11, z12, z13]
theorem l_wipe (hd : a + 82 ≤ b) (hs : bs < a) (hi : i + 3 ≤ L) (hL : L ≤ 1536) (hm : m bs = .inl (3, L, .inl xs)) (hC : CC m a σ) (hM : MM m b σ) (hA : AI k σ) (hk : k < 600) (hx : xs i &&& 31 = 15) : ∃ m' σ', rn 149 26 [.ref bs, .ref a, .ref b, .int (nI i)] [] (z, m) = rn 149 18 [.ref bs, .ref a, .ref b, .int (nI (i + 3))] [] (z, m') ∧ m' bs = .inl (3, L, .inl xs) ∧ CC m' a σ' ∧ MM m' b σ' ∧ AI (k + 1) σ' := by
  have k1 := hC.1; unfold CO at k1; obtain ⟨v1, v2, v3, v4, v5, v6, v7, v8, v9, v10, v11, v12, v13, kb⟩ := hM.obj; have c0 : ¬ nI i < 0 := nI_pos (by omega); have c1 : (nI i).toNatClampNeg = i := nI_clamp (by omega); have c2 : i < L := (by omega); have d0 : ¬ nI (i + 1) < 0 := nI_pos (by omega); have d1 : (nI (i + 1)).toNatClampNeg = i + 1 := nI_clamp (by omega); have d2 : i + 1 < L := (by omega); have b0 : ¬ nI (i + 2) < 0 := nI_pos (by omega); have b1 : (nI (i + 2)).toNatClampNeg = i + 2 := nI_clamp (by omega); have b2 : i + 2 < L := (by omega); have t2 : nI i + 2 = nI (i + 2) := nI_add i 2; have t3 : nI i + 3 = nI (i + 3) := nI_add i 3
  obtain ⟨v, m1, m2, σ', e1, e2, g1, g2, g3, f2, f1⟩ := y_wipe hd hA hk  (z, m) hC hM
  have s1 : m1 bs = _ := (f1 bs (by omega)).trans hm
  have s2 : m2 bs = _ := (f2 bs (by omega) (by omega)).trans hm
  have kb1 : m1 b = _ := (f1 b (by omega)).trans kb
  have z0 : ((15 : Int32) = 0) = False := by decide
  have z1 : ((15 : Int32) = 1) = False := by decide
  have z2 : ((15 : Int32) = 2) = False := by decide
  have z3 : ((15 : Int32) = 3) = False := by decide
  have z4 : ((15 : Int32) = 4) = False := by decide
  have z5 : ((15 : Int32) = 5) = False := by decide
  have z6 : ((15 : Int32) = 6) = False := by decide
  have z7 : ((15 : Int32) = 7) = False := by decide
  have z8 : ((15 : Int32) = 8) = False := by decide
  have z9 : ((15 : Int32) = 9) = False := by decide
  have z10 : ((15 : Int32) = 10) = False := by decide
  have z11 : ((15 : Int32) = 11) = False := by decide
  have z12 : ((15 : Int32) = 12) = False := by decide
  have z13 : ((15 : Int32) = 13) = False := by decide
  have z14 : ((15 : Int32) = 14) = False := by decide
  refine ⟨m2, σ', ?_, s2, g1, g2, g3⟩
  simp only [q149_26, q149_26N, q149_27, q149_28, q149_29, q149_31, q149_32, q149_533, q149_533N, q149_534, q149_537, q149_537N, q149_538, q149_541, q149_544, q149_545, q149_618, q149_621, rv_v, rv_n, rh_v, mu_at, isF_r, isK_r, fld_r, fset_r, gd0, gd1, gd2, gd3, gd4, gd5, gd6, gd7, gd8, gd9, gd10, gd11, gd12, gd13, inA_l, inW_l, inZ_l, inQ_l, aget_l, aset_l, qget_l, qset_l, isA_l, isA_q, alen_l, k2_i, k2_a, k2_n, k2_u, k2_l, ite_si, Option.isSome_some, List.cons_append, List.nil_append, List.length_cons, List.length_nil, Nat.reduceAdd, Nat.zero_add, Nat.reduceLT, Nat.reduceEqDiff, decide_true, decide_false, Bool.and_self, Bool.and_true, Bool.true_and, ↓reduceIte, List.set_cons_zero, List.set_cons_succ, Nat.reduceSub, Nat.add_left_cancel_iff, Nat.add_eq_left, Nat.left_eq_add, not_true_eq_false, not_false_eq_true, reduceCtorEq, i10, i01, ib10, ib01, beq_self_eq_true, eq_self, Int32.reduceLT, Int32.reduceToNatClampNeg, Int32.reduceAdd, Int32.reduceSub, Int32.reduceMul, Bool.or_true, Bool.true_or, Bool.or_false, Bool.false_or, Nat.reduceBEq, Nat.reduceMul, k1, kb, c0, c1, c2, d0, d1, d2, b0, b1, b2, t2, t3, nI_1, inA_s, hm, hx, s1, kb1, e1, e2, z0, z1, z2, z3, z4, z5, z6, z7, z8, z9, z10, z11, z12, z13, z14]
theorem l_fault (hd : a + 82 ≤ b) (hs : bs < a) (hi : i + 3 ≤ L) (hL : L ≤ 1536) (hm : m bs = .inl (3, L, .inl xs)) (hC : CC m a σ) (hM : MM m b σ) (hA : AI k σ) (hk : k < 600) (hx : xs i &&& 31 = 16) : ∃ m' σ', rn 149 26 [.ref bs, .ref a, .ref b, .int (nI i)] [] (z, m) = rn 149 18 [.ref bs, .ref a, .ref b, .int (nI (i + 3))] [] (z, m') ∧ m' bs = .inl (3, L, .inl xs) ∧ CC m' a σ' ∧ MM m' b σ' ∧ AI (k + 1) σ' := by
  have k1 := hC.1; unfold CO at k1; obtain ⟨v1, v2, v3, v4, v5, v6, v7, v8, v9, v10, v11, v12, v13, kb⟩ := hM.obj; have c0 : ¬ nI i < 0 := nI_pos (by omega); have c1 : (nI i).toNatClampNeg = i := nI_clamp (by omega); have c2 : i < L := (by omega); have d0 : ¬ nI (i + 1) < 0 := nI_pos (by omega); have d1 : (nI (i + 1)).toNatClampNeg = i + 1 := nI_clamp (by omega); have d2 : i + 1 < L := (by omega); have b0 : ¬ nI (i + 2) < 0 := nI_pos (by omega); have b1 : (nI (i + 2)).toNatClampNeg = i + 2 := nI_clamp (by omega); have b2 : i + 2 < L := (by omega); have t2 : nI i + 2 = nI (i + 2) := nI_add i 2; have t3 : nI i + 3 = nI (i + 3) := nI_add i 3
  obtain ⟨v, m1, m2, σ', e1, e2, g1, g2, g3, f2, f1⟩ := y_fault hd hA hk  (z, m) hC hM
  have s1 : m1 bs = _ := (f1 bs (by omega)).trans hm
  have s2 : m2 bs = _ := (f2 bs (by omega) (by omega)).trans hm
  have kb1 : m1 b = _ := (f1 b (by omega)).trans kb
  have z0 : ((16 : Int32) = 0) = False := by decide
  have z1 : ((16 : Int32) = 1) = False := by decide
  have z2 : ((16 : Int32) = 2) = False := by decide
  have z3 : ((16 : Int32) = 3) = False := by decide
  have z4 : ((16 : Int32) = 4) = False := by decide
  have z5 : ((16 : Int32) = 5) = False := by decide
  have z6 : ((16 : Int32) = 6) = False := by decide
  have z7 : ((16 : Int32) = 7) = False := by decide
  have z8 : ((16 : Int32) = 8) = False := by decide
  have z9 : ((16 : Int32) = 9) = False := by decide
  have z10 : ((16 : Int32) = 10) = False := by decide
  have z11 : ((16 : Int32) = 11) = False := by decide
  have z12 : ((16 : Int32) = 12) = False := by decide
  have z13 : ((16 : Int32) = 13) = False := by decide
  have z14 : ((16 : Int32) = 14) = False := by decide
  have z15 : ((16 : Int32) = 15) = False := by decide
  refine ⟨m2, σ', ?_, s2, g1, g2, g3⟩
  simp only [q149_26, q149_26N, q149_27, q149_28, q149_29, q149_31, q149_32, q149_546, q149_546N, q149_547, q149_550, q149_550N, q149_551, q149_554, q149_557, q149_558, q149_618, q149_621, rv_v, rv_n, rh_v, mu_at, isF_r, isK_r, fld_r, fset_r, gd0, gd1, gd2, gd3, gd4, gd5, gd6, gd7, gd8, gd9, gd10, gd11, gd12, gd13, inA_l, inW_l, inZ_l, inQ_l, aget_l, aset_l, qget_l, qset_l, isA_l, isA_q, alen_l, k2_i, k2_a, k2_n, k2_u, k2_l, ite_si, Option.isSome_some, List.cons_append, List.nil_append, List.length_cons, List.length_nil, Nat.reduceAdd, Nat.zero_add, Nat.reduceLT, Nat.reduceEqDiff, decide_true, decide_false, Bool.and_self, Bool.and_true, Bool.true_and, ↓reduceIte, List.set_cons_zero, List.set_cons_succ, Nat.reduceSub, Nat.add_left_cancel_iff, Nat.add_eq_left, Nat.left_eq_add, not_true_eq_false, not_false_eq_true, reduceCtorEq, i10, i01, ib10, ib01, beq_self_eq_true, eq_self, Int32.reduceLT, Int32.reduceToNatClampNeg, Int32.reduceAdd, Int32.reduceSub, Int32.reduceMul, Bool.or_true, Bool.true_or, Bool.or_false, Bool.false_or, Nat.reduceBEq, Nat.reduceMul, k1, kb, c0, c1, c2, d0, d1, d2, b0, b1, b2, t2, t3, nI_1, inA_s, hm, hx, s1, kb1, e1, e2, z0, z1, z2, z3, z4, z5, z6, z7, z8, z9, z10, z11, z12, z13, z14, z15]
theorem l_undo (hd : a + 82 ≤ b) (hs : bs < a) (hi : i + 3 ≤ L) (hL : L ≤ 1536) (hm : m bs = .inl (3, L, .inl xs)) (hC : CC m a σ) (hM : MM m b σ) (hA : AI k σ) (hk : k < 600) (hx : xs i &&& 31 = 17) : ∃ m' σ', rn 149 26 [.ref bs, .ref a, .ref b, .int (nI i)] [] (z, m) = rn 149 18 [.ref bs, .ref a, .ref b, .int (nI (i + 3))] [] (z, m') ∧ m' bs = .inl (3, L, .inl xs) ∧ CC m' a σ' ∧ MM m' b σ' ∧ AI (k + 1) σ' := by
  have k1 := hC.1; unfold CO at k1; obtain ⟨v1, v2, v3, v4, v5, v6, v7, v8, v9, v10, v11, v12, v13, kb⟩ := hM.obj; have c0 : ¬ nI i < 0 := nI_pos (by omega); have c1 : (nI i).toNatClampNeg = i := nI_clamp (by omega); have c2 : i < L := (by omega); have d0 : ¬ nI (i + 1) < 0 := nI_pos (by omega); have d1 : (nI (i + 1)).toNatClampNeg = i + 1 := nI_clamp (by omega); have d2 : i + 1 < L := (by omega); have b0 : ¬ nI (i + 2) < 0 := nI_pos (by omega); have b1 : (nI (i + 2)).toNatClampNeg = i + 2 := nI_clamp (by omega); have b2 : i + 2 < L := (by omega); have t2 : nI i + 2 = nI (i + 2) := nI_add i 2; have t3 : nI i + 3 = nI (i + 3) := nI_add i 3
  obtain ⟨v, m1, m2, σ', e1, e2, g1, g2, g3, f2, f1⟩ := y_undo hd hA hk  (z, m) hC hM
  have s1 : m1 bs = _ := (f1 bs (by omega)).trans hm
  have s2 : m2 bs = _ := (f2 bs (by omega) (by omega)).trans hm
  have kb1 : m1 b = _ := (f1 b (by omega)).trans kb
  have z0 : ((17 : Int32) = 0) = False := by decide
  have z1 : ((17 : Int32) = 1) = False := by decide
  have z2 : ((17 : Int32) = 2) = False := by decide
  have z3 : ((17 : Int32) = 3) = False := by decide
  have z4 : ((17 : Int32) = 4) = False := by decide
  have z5 : ((17 : Int32) = 5) = False := by decide
  have z6 : ((17 : Int32) = 6) = False := by decide
  have z7 : ((17 : Int32) = 7) = False := by decide
  have z8 : ((17 : Int32) = 8) = False := by decide
  have z9 : ((17 : Int32) = 9) = False := by decide
  have z10 : ((17 : Int32) = 10) = False := by decide
  have z11 : ((17 : Int32) = 11) = False := by decide
  have z12 : ((17 : Int32) = 12) = False := by decide
  have z13 : ((17 : Int32) = 13) = False := by decide
  have z14 : ((17 : Int32) = 14) = False := by decide
  have z15 : ((17 : Int32) = 15) = False := by decide
  have z16 : ((17 : Int32) = 16) = False := by decide
  refine ⟨m2, σ', ?_, s2, g1, g2, g3⟩
  simp only [q149_26, q149_26N, q149_27, q149_28, q149_29, q149_31, q149_32, q149_559, q149_559N, q149_560, q149_563, q149_563N, q149_564, q149_567, q149_570, q149_571, q149_618, q149_621, rv_v, rv_n, rh_v, mu_at, isF_r, isK_r, fld_r, fset_r, gd0, gd1, gd2, gd3, gd4, gd5, gd6, gd7, gd8, gd9, gd10, gd11, gd12, gd13, inA_l, inW_l, inZ_l, inQ_l, aget_l, aset_l, qget_l, qset_l, isA_l, isA_q, alen_l, k2_i, k2_a, k2_n, k2_u, k2_l, ite_si, Option.isSome_some, List.cons_append, List.nil_append, List.length_cons, List.length_nil, Nat.reduceAdd, Nat.zero_add, Nat.reduceLT, Nat.reduceEqDiff, decide_true, decide_false, Bool.and_self, Bool.and_true, Bool.true_and, ↓reduceIte, List.set_cons_zero, List.set_cons_succ, Nat.reduceSub, Nat.add_left_cancel_iff, Nat.add_eq_left, Nat.left_eq_add, not_true_eq_false, not_false_eq_true, reduceCtorEq, i10, i01, ib10, ib01, beq_self_eq_true, eq_self, Int32.reduceLT, Int32.reduceToNatClampNeg, Int32.reduceAdd, Int32.reduceSub, Int32.reduceMul, Bool.or_true, Bool.true_or, Bool.or_false, Bool.false_or, Nat.reduceBEq, Nat.reduceMul, k1, kb, c0, c1, c2, d0, d1, d2, b0, b1, b2, t2, t3, nI_1, inA_s, hm, hx, s1, kb1, e1, e2, z0, z1, z2, z3, z4, z5, z6, z7, z8, z9, z10, z11, z12, z13, z14, z15, z16]
theorem l_save (hd : a + 82 ≤ b) (hs : bs < a) (hi : i + 3 ≤ L) (hL : L ≤ 1536) (hm : m bs = .inl (3, L, .inl xs)) (hC : CC m a σ) (hM : MM m b σ) (hA : AI k σ) (hk : k < 600) (hx : xs i &&& 31 = 18) : ∃ m' σ', rn 149 26 [.ref bs, .ref a, .ref b, .int (nI i)] [] (z, m) = rn 149 18 [.ref bs, .ref a, .ref b, .int (nI (i + 3))] [] (z, m') ∧ m' bs = .inl (3, L, .inl xs) ∧ CC m' a σ' ∧ MM m' b σ' ∧ AI (k + 1) σ' := by
  have k1 := hC.1; unfold CO at k1; obtain ⟨v1, v2, v3, v4, v5, v6, v7, v8, v9, v10, v11, v12, v13, kb⟩ := hM.obj; have c0 : ¬ nI i < 0 := nI_pos (by omega); have c1 : (nI i).toNatClampNeg = i := nI_clamp (by omega); have c2 : i < L := (by omega); have d0 : ¬ nI (i + 1) < 0 := nI_pos (by omega); have d1 : (nI (i + 1)).toNatClampNeg = i + 1 := nI_clamp (by omega); have d2 : i + 1 < L := (by omega); have b0 : ¬ nI (i + 2) < 0 := nI_pos (by omega); have b1 : (nI (i + 2)).toNatClampNeg = i + 2 := nI_clamp (by omega); have b2 : i + 2 < L := (by omega); have t2 : nI i + 2 = nI (i + 2) := nI_add i 2; have t3 : nI i + 3 = nI (i + 3) := nI_add i 3
  obtain ⟨v, m1, m2, σ', e1, e2, g1, g2, g3, f2, f1⟩ := y_save hd hA hk (xs (i + 1)) (z, m) hC hM
  have s1 : m1 bs = _ := (f1 bs (by omega)).trans hm
  have s2 : m2 bs = _ := (f2 bs (by omega) (by omega)).trans hm
  have kb1 : m1 b = _ := (f1 b (by omega)).trans kb
  have z0 : ((18 : Int32) = 0) = False := by decide
  have z1 : ((18 : Int32) = 1) = False := by decide
  have z2 : ((18 : Int32) = 2) = False := by decide
  have z3 : ((18 : Int32) = 3) = False := by decide
  have z4 : ((18 : Int32) = 4) = False := by decide
  have z5 : ((18 : Int32) = 5) = False := by decide
  have z6 : ((18 : Int32) = 6) = False := by decide
  have z7 : ((18 : Int32) = 7) = False := by decide
  have z8 : ((18 : Int32) = 8) = False := by decide
  have z9 : ((18 : Int32) = 9) = False := by decide
  have z10 : ((18 : Int32) = 10) = False := by decide
  have z11 : ((18 : Int32) = 11) = False := by decide
  have z12 : ((18 : Int32) = 12) = False := by decide
  have z13 : ((18 : Int32) = 13) = False := by decide
  have z14 : ((18 : Int32) = 14) = False := by decide
  have z15 : ((18 : Int32) = 15) = False := by decide
  have z16 : ((18 : Int32) = 16) = False := by decide
  have z17 : ((18 : Int32) = 17) = False := by decide
  refine ⟨m2, σ', ?_, s2, g1, g2, g3⟩
  simp only [q149_26, q149_26N, q149_27, q149_28, q149_29, q149_31, q149_32, q149_572, q149_572N, q149_573, q149_573N, q149_574, q149_575, q149_576, q149_577, q149_578, q149_581, q149_581N, q149_582, q149_582N, q149_583, q149_584, q149_585, q149_586, q149_587, q149_590, q149_593, q149_594, q149_618, q149_621, rv_v, rv_n, rh_v, mu_at, isF_r, isK_r, fld_r, fset_r, gd0, gd1, gd2, gd3, gd4, gd5, gd6, gd7, gd8, gd9, gd10, gd11, gd12, gd13, inA_l, inW_l, inZ_l, inQ_l, aget_l, aset_l, qget_l, qset_l, isA_l, isA_q, alen_l, k2_i, k2_a, k2_n, k2_u, k2_l, ite_si, Option.isSome_some, List.cons_append, List.nil_append, List.length_cons, List.length_nil, Nat.reduceAdd, Nat.zero_add, Nat.reduceLT, Nat.reduceEqDiff, decide_true, decide_false, Bool.and_self, Bool.and_true, Bool.true_and, ↓reduceIte, List.set_cons_zero, List.set_cons_succ, Nat.reduceSub, Nat.add_left_cancel_iff, Nat.add_eq_left, Nat.left_eq_add, not_true_eq_false, not_false_eq_true, reduceCtorEq, i10, i01, ib10, ib01, beq_self_eq_true, eq_self, Int32.reduceLT, Int32.reduceToNatClampNeg, Int32.reduceAdd, Int32.reduceSub, Int32.reduceMul, Bool.or_true, Bool.true_or, Bool.or_false, Bool.false_or, Nat.reduceBEq, Nat.reduceMul, k1, kb, c0, c1, c2, d0, d1, d2, b0, b1, b2, t2, t3, nI_1, inA_s, hm, hx, s1, kb1, e1, e2, z0, z1, z2, z3, z4, z5, z6, z7, z8, z9, z10, z11, z12, z13, z14, z15, z16, z17]
theorem l_restore (hd : a + 82 ≤ b) (hs : bs < a) (hi : i + 3 ≤ L) (hL : L ≤ 1536) (hm : m bs = .inl (3, L, .inl xs)) (hC : CC m a σ) (hM : MM m b σ) (hA : AI k σ) (hk : k < 600) (hx : xs i &&& 31 = 19) : ∃ m' σ', rn 149 26 [.ref bs, .ref a, .ref b, .int (nI i)] [] (z, m) = rn 149 18 [.ref bs, .ref a, .ref b, .int (nI (i + 3))] [] (z, m') ∧ m' bs = .inl (3, L, .inl xs) ∧ CC m' a σ' ∧ MM m' b σ' ∧ AI (k + 1) σ' := by
  have k1 := hC.1; unfold CO at k1; obtain ⟨v1, v2, v3, v4, v5, v6, v7, v8, v9, v10, v11, v12, v13, kb⟩ := hM.obj; have c0 : ¬ nI i < 0 := nI_pos (by omega); have c1 : (nI i).toNatClampNeg = i := nI_clamp (by omega); have c2 : i < L := (by omega); have d0 : ¬ nI (i + 1) < 0 := nI_pos (by omega); have d1 : (nI (i + 1)).toNatClampNeg = i + 1 := nI_clamp (by omega); have d2 : i + 1 < L := (by omega); have b0 : ¬ nI (i + 2) < 0 := nI_pos (by omega); have b1 : (nI (i + 2)).toNatClampNeg = i + 2 := nI_clamp (by omega); have b2 : i + 2 < L := (by omega); have t2 : nI i + 2 = nI (i + 2) := nI_add i 2; have t3 : nI i + 3 = nI (i + 3) := nI_add i 3
  obtain ⟨v, m1, m2, σ', e1, e2, g1, g2, g3, f2, f1⟩ := y_restore hd hA hk (xs (i + 1)) (z, m) hC hM
  have s1 : m1 bs = _ := (f1 bs (by omega)).trans hm
  have s2 : m2 bs = _ := (f2 bs (by omega) (by omega)).trans hm
  have kb1 : m1 b = _ := (f1 b (by omega)).trans kb
  have z0 : ((19 : Int32) = 0) = False := by decide
  have z1 : ((19 : Int32) = 1) = False := by decide
  have z2 : ((19 : Int32) = 2) = False := by decide
  have z3 : ((19 : Int32) = 3) = False := by decide
  have z4 : ((19 : Int32) = 4) = False := by decide
  have z5 : ((19 : Int32) = 5) = False := by decide
  have z6 : ((19 : Int32) = 6) = False := by decide
  have z7 : ((19 : Int32) = 7) = False := by decide
  have z8 : ((19 : Int32) = 8) = False := by decide
  have z9 : ((19 : Int32) = 9) = False := by decide
  have z10 : ((19 : Int32) = 10) = False := by decide
  have z11 : ((19 : Int32) = 11) = False := by decide
  have z12 : ((19 : Int32) = 12) = False := by decide
  have z13 : ((19 : Int32) = 13) = False := by decide
  have z14 : ((19 : Int32) = 14) = False := by decide
  have z15 : ((19 : Int32) = 15) = False := by decide
  have z16 : ((19 : Int32) = 16) = False := by decide
  have z17 : ((19 : Int32) = 17) = False := by decide
  have z18 : ((19 : Int32) = 18) = False := by decide
  refine ⟨m2, σ', ?_, s2, g1, g2, g3⟩
  simp only [q149_26, q149_26N, q149_27, q149_28, q149_29, q149_31, q149_32, q149_595, q149_595N, q149_596, q149_596N, q149_597, q149_598, q149_599, q149_600, q149_601, q149_604, q149_604N, q149_605, q149_605N, q149_606, q149_607, q149_608, q149_609, q149_610, q149_613, q149_616, q149_617, q149_618, q149_621, rv_v, rv_n, rh_v, mu_at, isF_r, isK_r, fld_r, fset_r, gd0, gd1, gd2, gd3, gd4, gd5, gd6, gd7, gd8, gd9, gd10, gd11, gd12, gd13, inA_l, inW_l, inZ_l, inQ_l, aget_l, aset_l, qget_l, qset_l, isA_l, isA_q, alen_l, k2_i, k2_a, k2_n, k2_u, k2_l, ite_si, Option.isSome_some, List.cons_append, List.nil_append, List.length_cons, List.length_nil, Nat.reduceAdd, Nat.zero_add, Nat.reduceLT, Nat.reduceEqDiff, decide_true, decide_false, Bool.and_self, Bool.and_true, Bool.true_and, ↓reduceIte, List.set_cons_zero, List.set_cons_succ, Nat.reduceSub, Nat.add_left_cancel_iff, Nat.add_eq_left, Nat.left_eq_add, not_true_eq_false, not_false_eq_true, reduceCtorEq, i10, i01, ib10, ib01, beq_self_eq_true, eq_self, Int32.reduceLT, Int32.reduceToNatClampNeg, Int32.reduceAdd, Int32.reduceSub, Int32.reduceMul, Bool.or_true, Bool.true_or, Bool.or_false, Bool.false_or, Nat.reduceBEq, Nat.reduceMul, k1, kb, c0, c1, c2, d0, d1, d2, b0, b1, b2, t2, t3, nI_1, inA_s, hm, hx, s1, kb1, e1, e2, z0, z1, z2, z3, z4, z5, z6, z7, z8, z9, z10, z11, z12, z13, z14, z15, z16, z17, z18]
theorem l_none (hd : a + 82 ≤ b) (hs : bs < a) (hi : i + 3 ≤ L) (hL : L ≤ 1536) (hm : m bs = .inl (3, L, .inl xs)) (hC : CC m a σ) (hM : MM m b σ) (hA : AI k σ) (hk : k < 600) (h0 : ¬ xs i &&& 31 = 0) (h1 : ¬ xs i &&& 31 = 1) (h2 : ¬ xs i &&& 31 = 2) (h3 : ¬ xs i &&& 31 = 3) (h4 : ¬ xs i &&& 31 = 4) (h5 : ¬ xs i &&& 31 = 5) (h6 : ¬ xs i &&& 31 = 6) (h7 : ¬ xs i &&& 31 = 7) (h8 : ¬ xs i &&& 31 = 8) (h9 : ¬ xs i &&& 31 = 9) (h10 : ¬ xs i &&& 31 = 10) (h11 : ¬ xs i &&& 31 = 11) (h12 : ¬ xs i &&& 31 = 12) (h13 : ¬ xs i &&& 31 = 13) (h14 : ¬ xs i &&& 31 = 14) (h15 : ¬ xs i &&& 31 = 15) (h16 : ¬ xs i &&& 31 = 16) (h17 : ¬ xs i &&& 31 = 17) (h18 : ¬ xs i &&& 31 = 18) (h19 : ¬ xs i &&& 31 = 19) : ∃ m' σ', rn 149 26 [.ref bs, .ref a, .ref b, .int (nI i)] [] (z, m) = rn 149 18 [.ref bs, .ref a, .ref b, .int (nI (i + 3))] [] (z, m') ∧ m' bs = .inl (3, L, .inl xs) ∧ CC m' a σ' ∧ MM m' b σ' ∧ AI (k + 1) σ' := by
  have k1 := hC.1; unfold CO at k1; obtain ⟨v1, v2, v3, v4, v5, v6, v7, v8, v9, v10, v11, v12, v13, kb⟩ := hM.obj; have c0 : ¬ nI i < 0 := nI_pos (by omega); have c1 : (nI i).toNatClampNeg = i := nI_clamp (by omega); have c2 : i < L := (by omega); have d0 : ¬ nI (i + 1) < 0 := nI_pos (by omega); have d1 : (nI (i + 1)).toNatClampNeg = i + 1 := nI_clamp (by omega); have d2 : i + 1 < L := (by omega); have b0 : ¬ nI (i + 2) < 0 := nI_pos (by omega); have b1 : (nI (i + 2)).toNatClampNeg = i + 2 := nI_clamp (by omega); have b2 : i + 2 < L := (by omega); have t2 : nI i + 2 = nI (i + 2) := nI_add i 2; have t3 : nI i + 3 = nI (i + 3) := nI_add i 3
  refine ⟨m, σ, ?_, hm, hC, hM, hA.nx⟩
  simp only [q149_26, q149_26N, q149_27, q149_28, q149_29, q149_31, q149_32, q149_618, q149_621, rv_v, rv_n, rh_v, mu_at, isF_r, isK_r, fld_r, fset_r, gd0, gd1, gd2, gd3, gd4, gd5, gd6, gd7, gd8, gd9, gd10, gd11, gd12, gd13, inA_l, inW_l, inZ_l, inQ_l, aget_l, aset_l, qget_l, qset_l, isA_l, isA_q, alen_l, k2_i, k2_a, k2_n, k2_u, k2_l, ite_si, Option.isSome_some, List.cons_append, List.nil_append, List.length_cons, List.length_nil, Nat.reduceAdd, Nat.zero_add, Nat.reduceLT, Nat.reduceEqDiff, decide_true, decide_false, Bool.and_self, Bool.and_true, Bool.true_and, ↓reduceIte, List.set_cons_zero, List.set_cons_succ, Nat.reduceSub, Nat.add_left_cancel_iff, Nat.add_eq_left, Nat.left_eq_add, not_true_eq_false, not_false_eq_true, reduceCtorEq, i10, i01, ib10, ib01, beq_self_eq_true, eq_self, Int32.reduceLT, Int32.reduceToNatClampNeg, Int32.reduceAdd, Int32.reduceSub, Int32.reduceMul, Bool.or_true, Bool.true_or, Bool.or_false, Bool.false_or, Nat.reduceBEq, Nat.reduceMul, k1, kb, c0, c1, c2, d0, d1, d2, b0, b1, b2, t2, t3, nI_1, inA_s, hm, h0, h1, h2, h3, h4, h5, h6, h7, h8, h9, h10, h11, h12, h13, h14, h15, h16, h17, h18, h19]
theorem l_call (hd : a + 82 ≤ b) (hs : bs < a) (hi : i + 3 ≤ L) (hL : L ≤ 1536) (hm : m bs = .inl (3, L, .inl xs)) (hC : CC m a σ) (hM : MM m b σ) (hA : AI k σ) (hk : k < 600) : ∃ m' σ', rn 149 26 [.ref bs, .ref a, .ref b, .int (nI i)] [] (z, m) = rn 149 18 [.ref bs, .ref a, .ref b, .int (nI (i + 3))] [] (z, m') ∧ m' bs = .inl (3, L, .inl xs) ∧ CC m' a σ' ∧ MM m' b σ' ∧ AI (k + 1) σ' := by
  by_cases h0 : xs i &&& 31 = 0
  · exact l_set hd hs hi hL hm hC hM hA hk h0
  by_cases h1 : xs i &&& 31 = 1
  · exact l_build hd hs hi hL hm hC hM hA hk h1
  by_cases h2 : xs i &&& 31 = 2
  · exact l_read hd hs hi hL hm hC hM hA hk h2
  by_cases h3 : xs i &&& 31 = 3
  · exact l_begin hd hs hi hL hm hC hM hA hk h3
  by_cases h4 : xs i &&& 31 = 4
  · exact l_lay hd hs hi hL hm hC hM hA hk h4
  by_cases h5 : xs i &&& 31 = 5
  · exact l_takeUp hd hs hi hL hm hC hM hA hk h5
  by_cases h6 : xs i &&& 31 = 6
  · exact l_clear hd hs hi hL hm hC hM hA hk h6
  by_cases h7 : xs i &&& 31 = 7
  · exact l_step hd hs hi hL hm hC hM hA hk h7
  by_cases h8 : xs i &&& 31 = 8
  · exact l_crew hd hs hi hL hm hC hM hA hk h8
  by_cases h9 : xs i &&& 31 = 9
  · exact l_count hd hs hi hL hm hC hM hA hk h9
  by_cases h10 : xs i &&& 31 = 10
  · exact l_ifMet hd hs hi hL hm hC hM hA hk h10
  by_cases h11 : xs i &&& 31 = 11
  · exact l_bestBeginning hd hs hi hL hm hC hM hA hk h11
  by_cases h12 : xs i &&& 31 = 12
  · exact l_ifLaid hd hs hi hL hm hC hM hA hk h12
  by_cases h13 : xs i &&& 31 = 13
  · exact l_leastTrim hd hs hi hL hm hC hM hA hk h13
  by_cases h14 : xs i &&& 31 = 14
  · exact l_put hd hs hi hL hm hC hM hA hk h14
  by_cases h15 : xs i &&& 31 = 15
  · exact l_wipe hd hs hi hL hm hC hM hA hk h15
  by_cases h16 : xs i &&& 31 = 16
  · exact l_fault hd hs hi hL hm hC hM hA hk h16
  by_cases h17 : xs i &&& 31 = 17
  · exact l_undo hd hs hi hL hm hC hM hA hk h17
  by_cases h18 : xs i &&& 31 = 18
  · exact l_save hd hs hi hL hm hC hM hA hk h18
  by_cases h19 : xs i &&& 31 = 19
  · exact l_restore hd hs hi hL hm hC hM hA hk h19
  exact l_none hd hs hi hL hm hC hM hA hk h0 h1 h2 h3 h4 h5 h6 h7 h8 h9 h10 h11 h12 h13 h14 h15 h16 h17 h18 h19
theorem l_loop (hd : a + 82 ≤ b) (hs : bs < a) (hL : L ≤ 1536) : ∀ (d k : Nat) (σ : AS) (m : xM), L ≤ 3 * k + d → 3 * k ≤ L + 2 → m bs = .inl (3, L, .inl xs) → CC m a σ → MM m b σ → AI k σ → ∃ m', rn 149 18 [.ref bs, .ref a, .ref b, .int (nI (3 * k))] [] (z, m) = some (some (.int 1), (z, m')) := by
  intro d
  induction d with
  | zero =>
    intro k σ m h1 h2 hm hC hM hA
    have c1 : Int32.ofNat L - 3 < nI (3 * k) := by
      rw [Int32.lt_iff_toInt_lt, show Int32.ofNat L - 3 = nI L - nI 3 from rfl, pk_sub_toInt (by omega) (by omega), nI_toInt (by omega)]
      omega
    refine ⟨m, ?_⟩
    rw [q149_18]
    simp only [q149_19, q149_19N, q149_20, q149_21, q149_22, q149_23, q149_624, q149_625, rv_v, rv_n, rh_v, mu_at, isF_r, isK_r, fld_r, fset_r, gd0, gd1, gd2, gd3, gd4, gd5, gd6, gd7, gd8, gd9, gd10, gd11, gd12, gd13, inA_l, inW_l, inZ_l, inQ_l, aget_l, aset_l, qget_l, qset_l, isA_l, isA_q, alen_l, k2_i, k2_a, k2_n, k2_u, k2_l, ite_si, Option.isSome_some, List.cons_append, List.nil_append, List.length_cons, List.length_nil, Nat.reduceAdd, Nat.zero_add, Nat.reduceLT, Nat.reduceEqDiff, decide_true, decide_false, Bool.and_self, Bool.and_true, Bool.true_and, ↓reduceIte, List.set_cons_zero, List.set_cons_succ, Nat.reduceSub, Nat.add_left_cancel_iff, Nat.add_eq_left, Nat.left_eq_add, not_true_eq_false, not_false_eq_true, reduceCtorEq, i10, i01, ib10, ib01, beq_self_eq_true, eq_self, Int32.reduceLT, Int32.reduceToNatClampNeg, Int32.reduceAdd, Int32.reduceSub, Int32.reduceMul, Bool.or_true, Bool.true_or, Bool.or_false, Bool.false_or, Nat.reduceBEq, Nat.reduceMul, hm, isA_s, if_pos c1]
  | succ d ih =>
    intro k σ m h1 h2 hm hC hM hA
    by_cases hi : 3 * k + 3 ≤ L
    · have c1 : ¬ Int32.ofNat L - 3 < nI (3 * k) := by
        rw [Int32.lt_iff_toInt_lt, show Int32.ofNat L - 3 = nI L - nI 3 from rfl, pk_sub_toInt (by omega) (by omega), nI_toInt (by omega)]
        omega
      obtain ⟨m1, σ1, e1, g1, g2, g3, g4⟩ := l_call (z := z) hd hs hi hL hm hC hM hA (by omega)
      obtain ⟨m2, e2⟩ := ih (k + 1) σ1 m1 (by omega) (by omega) g1 g2 g3 g4
      rw [show 3 * (k + 1) = 3 * k + 3 by omega] at e2
      refine ⟨m2, ?_⟩
      rw [q149_18]
      simp only [q149_19, q149_19N, q149_20, q149_21, q149_22, q149_23, rv_v, rv_n, rh_v, mu_at, isF_r, isK_r, fld_r, fset_r, gd0, gd1, gd2, gd3, gd4, gd5, gd6, gd7, gd8, gd9, gd10, gd11, gd12, gd13, inA_l, inW_l, inZ_l, inQ_l, aget_l, aset_l, qget_l, qset_l, isA_l, isA_q, alen_l, k2_i, k2_a, k2_n, k2_u, k2_l, ite_si, Option.isSome_some, List.cons_append, List.nil_append, List.length_cons, List.length_nil, Nat.reduceAdd, Nat.zero_add, Nat.reduceLT, Nat.reduceEqDiff, decide_true, decide_false, Bool.and_self, Bool.and_true, Bool.true_and, ↓reduceIte, List.set_cons_zero, List.set_cons_succ, Nat.reduceSub, Nat.add_left_cancel_iff, Nat.add_eq_left, Nat.left_eq_add, not_true_eq_false, not_false_eq_true, reduceCtorEq, i10, i01, ib10, ib01, beq_self_eq_true, eq_self, Int32.reduceLT, Int32.reduceToNatClampNeg, Int32.reduceAdd, Int32.reduceSub, Int32.reduceMul, Bool.or_true, Bool.true_or, Bool.or_false, Bool.false_or, Nat.reduceBEq, Nat.reduceMul, hm, isA_s, if_neg c1, e1, e2]
    · have c1 : Int32.ofNat L - 3 < nI (3 * k) := by
        rw [Int32.lt_iff_toInt_lt, show Int32.ofNat L - 3 = nI L - nI 3 from rfl, pk_sub_toInt (by omega) (by omega), nI_toInt (by omega)]
        omega
      refine ⟨m, ?_⟩
      rw [q149_18]
      simp only [q149_19, q149_19N, q149_20, q149_21, q149_22, q149_23, q149_624, q149_625, rv_v, rv_n, rh_v, mu_at, isF_r, isK_r, fld_r, fset_r, gd0, gd1, gd2, gd3, gd4, gd5, gd6, gd7, gd8, gd9, gd10, gd11, gd12, gd13, inA_l, inW_l, inZ_l, inQ_l, aget_l, aset_l, qget_l, qset_l, isA_l, isA_q, alen_l, k2_i, k2_a, k2_n, k2_u, k2_l, ite_si, Option.isSome_some, List.cons_append, List.nil_append, List.length_cons, List.length_nil, Nat.reduceAdd, Nat.zero_add, Nat.reduceLT, Nat.reduceEqDiff, decide_true, decide_false, Bool.and_self, Bool.and_true, Bool.true_and, ↓reduceIte, List.set_cons_zero, List.set_cons_succ, Nat.reduceSub, Nat.add_left_cancel_iff, Nat.add_eq_left, Nat.left_eq_add, not_true_eq_false, not_false_eq_true, reduceCtorEq, i10, i01, ib10, ib01, beq_self_eq_true, eq_self, Int32.reduceLT, Int32.reduceToNatClampNeg, Int32.reduceAdd, Int32.reduceSub, Int32.reduceMul, Bool.or_true, Bool.true_or, Bool.or_false, Bool.false_or, Nat.reduceBEq, Nat.reduceMul, hm, isA_s, if_pos c1]
theorem l_start (hs : bs < a) (hL : L ≤ 1536) (hm : m bs = .inl (3, L, .inl xs)) : ∃ m', rn 149 0 [.ref bs, unk, unk, unk] [] ((a, 0), m) = some (some (.int 1), ((a + 92, 1644), m')) := by
  obtain ⟨m1, e1, g1, f1⟩ := p_iMC (a := a) (s := 7) (m := mu m a (.inr (7, [.null, .null, .null, .null, .null, .null, .null]))) (mu_s _ _ _)
  obtain ⟨m2, e2, g2, f2⟩ := m_iMM (b := a + 82) (s := 994) (m := mu m1 (a + 82) (.inr (8, [.null, .null, .int 0, .null, .null, .null, .null, .int 0, .int 0, .int 0, .int 0, .null, .null, .null]))) (mu_s _ _ _)
  have s2 : m2 bs = .inl (3, L, .inl xs) := by
    rw [f2 bs (by omega), mu_n _ _ (by omega), f1 bs (by omega), mu_n _ _ (by omega)]
    exact hm
  obtain ⟨m3, e3⟩ := l_loop (a := a) (b := a + 82) (z := (a + 92, 1644)) (by omega) hs hL L 0 s0 m2 (by omega) (by omega) s2 (g1.fr (fun x q1 q2 => by rw [f2 x (by omega), mu_n _ _ (by omega)])) g2 AI0
  rw [show 3 * 0 = 0 from rfl, show nI 0 = 0 from rfl] at e3
  simp only [Nat.add_assoc, Nat.reduceAdd] at e1 e2
  refine ⟨m3, ?_⟩
  simp only [q149_0, q149_3, q149_4, q149_7, q149_7N, q149_8, q149_11, q149_12, q149_15, q149_15N, q149_16, q149_17, rv_v, rv_n, rh_v, mu_at, isF_r, isK_r, fld_r, fset_r, gd0, gd1, gd2, gd3, gd4, gd5, gd6, gd7, gd8, gd9, gd10, gd11, gd12, gd13, inA_l, inW_l, inZ_l, inQ_l, aget_l, aset_l, qget_l, qset_l, isA_l, isA_q, alen_l, k2_i, k2_a, k2_n, k2_u, k2_l, ite_si, Option.isSome_some, List.cons_append, List.nil_append, List.length_cons, List.length_nil, Nat.reduceAdd, Nat.zero_add, Nat.reduceLT, Nat.reduceEqDiff, decide_true, decide_false, Bool.and_self, Bool.and_true, Bool.true_and, ↓reduceIte, List.set_cons_zero, List.set_cons_succ, Nat.reduceSub, Nat.add_left_cancel_iff, Nat.add_eq_left, Nat.left_eq_add, not_true_eq_false, not_false_eq_true, reduceCtorEq, i10, i01, ib10, ib01, beq_self_eq_true, eq_self, Int32.reduceLT, Int32.reduceToNatClampNeg, Int32.reduceAdd, Int32.reduceSub, Int32.reduceMul, Bool.or_true, Bool.true_or, Bool.or_false, Bool.false_or, Nat.reduceBEq, Nat.reduceMul, Nat.add_assoc, e1, e2, e3]
end
