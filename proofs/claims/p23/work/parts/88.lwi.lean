/-- best and least behind one more try -/
def blB (f : Nat → Int32) (best least : Int32) (t : Nat) : Int32 := if f t = -6 then best else if best = -6 then nI t else if f t < least then nI t else best
def blL (f : Nat → Int32) (best least : Int32) (t : Nat) : Int32 := if f t = -6 then least else if best = -6 then f t else if f t < least then f t else least
theorem lt_bl (f : Nat → Int32) (best least : Int32) (t n : Nat) : lt f best least t (n + 1) = lt f (blB f best least t) (blL f best least t) (t + 1) n := by
  rw [lt]
  unfold blB blL
  by_cases h1 : f t = -6
  · rw [if_pos h1, if_pos h1, if_pos h1]
  · rw [if_neg h1, if_neg h1, if_neg h1]
    by_cases h2 : best = -6
    · rw [if_pos h2, if_pos h2, if_pos h2]
    · rw [if_neg h2, if_neg h2, if_neg h2]
      by_cases h3 : f t < least
      · rw [if_pos h3, if_pos h3, if_pos h3]
      · rw [if_neg h3, if_neg h3, if_neg h3]
section
variable {a q0 k S t : Nat} {σ : AS} {m : xM} {rf tf cf nf : Nat → Int32} {z : Nat × Nat} {x5 x6 : Int32} {v14 : Value}
theorem p_wN {x13 : Int32} (hq : a + 88 ≤ q0) (hC : CC m a σ) (hM : LA4 m a rf tf cf nf) (hI : RI k σ.1) (hk : k < 800) (h3 : σ.1 3 = nI S) (hS : S ≤ 20) (hS0 : 0 < S) (ht : t ≤ S) (n0 : nf 0 = σ.1 0) (n3 : nf 3 = σ.1 3) (hv : tv σ.1 S t = -6) (h6 : ¬ x6 = nI t) : ∃ m', rn 84 205 [.ref a, .ref (a + 82), .ref (a + 83), .ref (a + 86), .ref (a + 87), .int x5, .int x6, .int 1, .int (nI t), .ref q0, .ref (q0 + 1), .ref (q0 + 2), .int 0, .int x13, v14] [] (z, m) = rn 84 64 [.ref a, .ref (a + 82), .ref (a + 83), .ref (a + 86), .ref (a + 87), .int x5, .int x6, .int 1, .int (nI (t + 1)), .ref q0, .ref (q0 + 1), .ref (q0 + 2), .int 0, .int (-6), v14] [] (z, m') ∧ CC m' a σ ∧ fC a m m' := by
  obtain ⟨m', e, g1, g2⟩ := c_ifLaid2 hS hS0 ht h3 hI (z, m) hC
  rw [hv] at e
  have k1 := hC.1
  unfold CO at k1
  refine ⟨m', ?_, g1, g2⟩
  simp only [q84_205, q84_207, q84_210, q84_210N, q84_212, q84_213, q84_214, q84_214N, q84_216, q84_218, q84_219, q84_220, q84_223, q84_225, q84_227, q84_227N, q84_228, q84_230, q84_233, q84_235, q84_238, q84_239, q84_242, q84_243, q84_245, q84_247, q84_250, q84_252, q84_255, q84_257, q84_259, q84_262, q84_264, q84_267, q84_269, q84_271, q84_273, q84_275, q84_278, q84_280, q84_283, q84_285, q84_287, q84_289, q84_292, q84_294, q84_297, q84_299, q84_299N, q84_301, q84_302, q84_303, q84_306, q84_306N, q84_308, q84_308N, q84_310, q84_312, q84_313, q84_314, q84_315, q84_315N, q84_316, q84_318, q84_319, q84_320, q84_321, q84_322, q84_322N, q84_323, q84_325, q84_326, q84_327, q84_328, q84_329, q84_329N, q84_331, q84_332, q84_333, q84_334, q84_334N, q84_336, q84_338, q84_339, q84_342, q84_344, q84_346, q84_349, q84_349N, q84_350, q84_352, q84_353, q84_356, q84_358, q84_361, q84_361N, q84_362, q84_364, q84_365, q84_368, q84_370, q84_373, q84_373N, q84_374, q84_376, q84_377, q84_380, q84_382, q84_385, q84_386, q84_389, q84_390, q84_392, q84_395, rv_v, rv_n, rh_v, mu_at, isF_r, isK_r, fld_r, fset_r, gd0, gd1, gd2, gd3, gd4, gd5, gd6, gd7, gd8, gd9, gd10, gd11, gd12, gd13, inA_l, inW_l, inZ_l, inQ_l, aget_l, aset_l, qget_l, qset_l, isA_l, isA_q, alen_l, k2_i, k2_a, k2_n, k2_u, k2_l, ite_si, Option.isSome_some, List.cons_append, List.nil_append, List.length_cons, List.length_nil, Nat.reduceAdd, Nat.zero_add, Nat.reduceLT, Nat.reduceEqDiff, decide_true, decide_false, Bool.and_self, Bool.and_true, Bool.true_and, ↓reduceIte, List.set_cons_zero, List.set_cons_succ, Nat.reduceSub, Nat.add_left_cancel_iff, Nat.add_eq_left, Nat.left_eq_add, not_true_eq_false, not_false_eq_true, reduceCtorEq, i10, i01, ib10, ib01, beq_self_eq_true, eq_self, Int32.reduceLT, Int32.reduceToNatClampNeg, Int32.reduceAdd, Int32.reduceSub, Int32.reduceMul, Bool.or_true, Bool.true_or, Bool.or_false, Bool.false_or, Nat.reduceBEq, Nat.reduceMul, k1, e, if_neg h6, nI_1]
theorem p_wY1 {x13 : Int32} {v : Nat} {df : Nat → Int32} (hq : a + 88 ≤ q0) (hC : CC m a σ) (hM : LA4 m a rf tf cf nf) (hI : RI k σ.1) (hk : k < 800) (h3 : σ.1 3 = nI S) (hS : S ≤ 20) (hS0 : 0 < S) (ht : t ≤ S) (n0 : nf 0 = σ.1 0) (n3 : nf 3 = σ.1 3) (hd : m (q0 + 2) = .inl (0, 12, .inl df)) (hdf : df 4 + df 10 = nI v) (hv : tv σ.1 S t = nI v) (hvb : v < 2 ^ 30) (h6 : x6 = -6 ∨ ∃ j, j < t ∧ x6 = nI j) : ∃ m', rn 84 205 [.ref a, .ref (a + 82), .ref (a + 83), .ref (a + 86), .ref (a + 87), .int x5, .int x6, .int 1, .int (nI t), .ref q0, .ref (q0 + 1), .ref (q0 + 2), .int 1, .int x13, v14] [] (z, m) = rn 84 287 [.ref a, .ref (a + 82), .ref (a + 83), .ref (a + 86), .ref (a + 87), .int (blL (tv σ.1 S) x6 x5 t), .int (blB (tv σ.1 S) x6 x5 t), .int 1, .int (nI t), .ref q0, .ref (q0 + 1), .ref (q0 + 2), .int 1, .int (nI v), v14] [] (z, m') ∧ CC m' a σ ∧ fC a m m' := by
  obtain ⟨m', e, g1, g2⟩ := c_ifLaid2 hS hS0 ht h3 hI (z, m) hC
  rw [hv] at e
  have k1 := hC.1
  unfold CO at k1
  have nv : ¬ nI v = -6 := by
    intro q
    have := congrArg Int32.toInt q
    rw [nI_toInt (by omega)] at this
    have e : (-6 : Int32).toInt = -6 := by decide
    omega
  have i0 : ¬ nI t = -6 := nI_n6 (by omega)
  refine ⟨m', ?_, g1, g2⟩
  unfold blL blB
  rw [hv, if_neg nv, if_neg nv]
  rcases h6 with h6 | ⟨j, hj, h6⟩
  · have c1 : x6 < 0 := by rw [h6]; decide
    rw [if_pos h6, if_pos h6]
    simp only [q84_205, q84_207, q84_210, q84_210N, q84_212, q84_213, q84_214, q84_214N, q84_216, q84_218, q84_219, q84_220, q84_223, q84_225, q84_227, q84_227N, q84_228, q84_230, q84_233, q84_235, q84_238, q84_239, q84_242, q84_243, q84_245, q84_247, q84_250, q84_252, q84_255, q84_257, q84_259, q84_262, q84_264, q84_267, q84_269, q84_271, q84_273, q84_275, q84_278, q84_280, q84_283, q84_285, rv_v, rv_n, rh_v, mu_at, isF_r, isK_r, fld_r, fset_r, gd0, gd1, gd2, gd3, gd4, gd5, gd6, gd7, gd8, gd9, gd10, gd11, gd12, gd13, inA_l, inW_l, inZ_l, inQ_l, aget_l, aset_l, qget_l, qset_l, isA_l, isA_q, alen_l, k2_i, k2_a, k2_n, k2_u, k2_l, ite_si, Option.isSome_some, List.cons_append, List.nil_append, List.length_cons, List.length_nil, Nat.reduceAdd, Nat.zero_add, Nat.reduceLT, Nat.reduceEqDiff, decide_true, decide_false, Bool.and_self, Bool.and_true, Bool.true_and, ↓reduceIte, List.set_cons_zero, List.set_cons_succ, Nat.reduceSub, Nat.add_left_cancel_iff, Nat.add_eq_left, Nat.left_eq_add, not_true_eq_false, not_false_eq_true, reduceCtorEq, i10, i01, ib10, ib01, beq_self_eq_true, eq_self, Int32.reduceLT, Int32.reduceToNatClampNeg, Int32.reduceAdd, Int32.reduceSub, Int32.reduceMul, Bool.or_true, Bool.true_or, Bool.or_false, Bool.false_or, Nat.reduceBEq, Nat.reduceMul, hd, hdf, k1, e, if_pos c1]
  · have c1 : ¬ x6 < 0 := by rw [h6]; exact nI_pos (by omega)
    have c2 : ¬ x6 = -6 := by rw [h6]; exact nI_n6 (by omega)
    have c3 : ¬ x6 = nI t := by rw [h6]; exact fun q => by have := nI_inj (by omega) (by omega) q; omega
    rw [if_neg c2, if_neg c2]
    by_cases c4 : nI v < x5
    · rw [if_pos c4, if_pos c4]
      simp only [q84_205, q84_207, q84_210, q84_210N, q84_212, q84_213, q84_214, q84_214N, q84_216, q84_218, q84_219, q84_220, q84_223, q84_225, q84_227, q84_227N, q84_228, q84_230, q84_233, q84_235, q84_238, q84_239, q84_242, q84_243, q84_245, q84_247, q84_250, q84_252, q84_255, q84_257, q84_259, q84_262, q84_264, q84_267, q84_269, q84_271, q84_273, q84_275, q84_278, q84_280, q84_283, q84_285, rv_v, rv_n, rh_v, mu_at, isF_r, isK_r, fld_r, fset_r, gd0, gd1, gd2, gd3, gd4, gd5, gd6, gd7, gd8, gd9, gd10, gd11, gd12, gd13, inA_l, inW_l, inZ_l, inQ_l, aget_l, aset_l, qget_l, qset_l, isA_l, isA_q, alen_l, k2_i, k2_a, k2_n, k2_u, k2_l, ite_si, Option.isSome_some, List.cons_append, List.nil_append, List.length_cons, List.length_nil, Nat.reduceAdd, Nat.zero_add, Nat.reduceLT, Nat.reduceEqDiff, decide_true, decide_false, Bool.and_self, Bool.and_true, Bool.true_and, ↓reduceIte, List.set_cons_zero, List.set_cons_succ, Nat.reduceSub, Nat.add_left_cancel_iff, Nat.add_eq_left, Nat.left_eq_add, not_true_eq_false, not_false_eq_true, reduceCtorEq, i10, i01, ib10, ib01, beq_self_eq_true, eq_self, Int32.reduceLT, Int32.reduceToNatClampNeg, Int32.reduceAdd, Int32.reduceSub, Int32.reduceMul, Bool.or_true, Bool.true_or, Bool.or_false, Bool.false_or, Nat.reduceBEq, Nat.reduceMul, hd, hdf, k1, e, if_neg c1, if_pos c4]
    · rw [if_neg c4, if_neg c4]
      simp only [q84_205, q84_207, q84_210, q84_210N, q84_212, q84_213, q84_214, q84_214N, q84_216, q84_218, q84_219, q84_220, q84_223, q84_225, q84_227, q84_227N, q84_228, q84_230, q84_233, q84_235, q84_238, q84_239, q84_242, q84_243, q84_245, q84_247, q84_250, q84_252, q84_255, q84_257, q84_259, q84_262, q84_264, q84_267, q84_269, q84_271, q84_273, q84_275, q84_278, q84_280, q84_283, q84_285, rv_v, rv_n, rh_v, mu_at, isF_r, isK_r, fld_r, fset_r, gd0, gd1, gd2, gd3, gd4, gd5, gd6, gd7, gd8, gd9, gd10, gd11, gd12, gd13, inA_l, inW_l, inZ_l, inQ_l, aget_l, aset_l, qget_l, qset_l, isA_l, isA_q, alen_l, k2_i, k2_a, k2_n, k2_u, k2_l, ite_si, Option.isSome_some, List.cons_append, List.nil_append, List.length_cons, List.length_nil, Nat.reduceAdd, Nat.zero_add, Nat.reduceLT, Nat.reduceEqDiff, decide_true, decide_false, Bool.and_self, Bool.and_true, Bool.true_and, ↓reduceIte, List.set_cons_zero, List.set_cons_succ, Nat.reduceSub, Nat.add_left_cancel_iff, Nat.add_eq_left, Nat.left_eq_add, not_true_eq_false, not_false_eq_true, reduceCtorEq, i10, i01, ib10, ib01, beq_self_eq_true, eq_self, Int32.reduceLT, Int32.reduceToNatClampNeg, Int32.reduceAdd, Int32.reduceSub, Int32.reduceMul, Bool.or_true, Bool.true_or, Bool.or_false, Bool.false_or, Nat.reduceBEq, Nat.reduceMul, hd, hdf, k1, e, if_neg c1, if_neg c4, if_neg c3]
theorem p_wY2 {x13 : Int32} {pf : Nat → Int32} (hq : a + 88 ≤ q0) (hC : CC m a σ) (hM : LA4 m a rf tf cf nf) (hI : RI k σ.1) (hk : k < 800) (h3 : σ.1 3 = nI S) (hS : S ≤ 20) (hS0 : 0 < S) (ht : t ≤ S) (n0 : nf 0 = σ.1 0) (n3 : nf 3 = σ.1 3) (hrt : ∀ j, j < S → rf j = σ.1 (4 + j) ∧ tf j = σ.1 (24 + j)) (hp : m q0 = .inl (0, 20, .inl pf)) (hp0 : ∀ j, j < t → pf j = mB σ.1 j) (hp1 : ∀ j, t ≤ j → j < S → pf j = mA σ.1 S j) : ∃ v14', rn 84 287 [.ref a, .ref (a + 82), .ref (a + 83), .ref (a + 86), .ref (a + 87), .int x5, .int x6, .int 1, .int (nI t), .ref q0, .ref (q0 + 1), .ref (q0 + 2), .int 1, .int x13, v14] [] (z, m) = rn 84 64 [.ref a, .ref (a + 82), .ref (a + 83), .ref (a + 86), .ref (a + 87), .int x5, .int x6, .int 1, .int (nI (t + 1)), .ref q0, .ref (q0 + 1), .ref (q0 + 2), .int 1, .int x13, v14'] [] (z, m) := by
  have k1 := hC.1
  unfold CO at k1
  obtain ⟨er, et, ec, en⟩ := hM
  have hn3 : nf 3 = nI S := n3.trans h3
  by_cases hz : t = 0
  · subst hz
    have c1 : ¬ (0 : Int32) < nI 0 := by decide
    refine ⟨v14, ?_⟩
    simp only [q84_287, q84_289, q84_292, q84_294, q84_297, q84_299, q84_299N, q84_301, q84_302, q84_303, q84_306, q84_306N, q84_308, q84_308N, q84_310, q84_312, q84_313, q84_314, q84_315, q84_315N, q84_316, q84_318, q84_319, q84_320, q84_321, q84_322, q84_322N, q84_323, q84_325, q84_326, q84_327, q84_328, q84_329, q84_329N, q84_331, q84_332, q84_333, q84_334, q84_334N, q84_336, q84_338, q84_339, q84_342, q84_344, q84_346, q84_349, q84_349N, q84_350, q84_352, q84_353, q84_356, q84_358, q84_361, q84_361N, q84_362, q84_364, q84_365, q84_368, q84_370, q84_373, q84_373N, q84_374, q84_376, q84_377, q84_380, q84_382, q84_385, q84_386, q84_389, q84_390, q84_392, q84_395, rv_v, rv_n, rh_v, mu_at, isF_r, isK_r, fld_r, fset_r, gd0, gd1, gd2, gd3, gd4, gd5, gd6, gd7, gd8, gd9, gd10, gd11, gd12, gd13, inA_l, inW_l, inZ_l, inQ_l, aget_l, aset_l, qget_l, qset_l, isA_l, isA_q, alen_l, k2_i, k2_a, k2_n, k2_u, k2_l, ite_si, Option.isSome_some, List.cons_append, List.nil_append, List.length_cons, List.length_nil, Nat.reduceAdd, Nat.zero_add, Nat.reduceLT, Nat.reduceEqDiff, decide_true, decide_false, Bool.and_self, Bool.and_true, Bool.true_and, ↓reduceIte, List.set_cons_zero, List.set_cons_succ, Nat.reduceSub, Nat.add_left_cancel_iff, Nat.add_eq_left, Nat.left_eq_add, not_true_eq_false, not_false_eq_true, reduceCtorEq, i10, i01, ib10, ib01, beq_self_eq_true, eq_self, Int32.reduceLT, Int32.reduceToNatClampNeg, Int32.reduceAdd, Int32.reduceSub, Int32.reduceMul, Bool.or_true, Bool.true_or, Bool.or_false, Bool.false_or, Nat.reduceBEq, Nat.reduceMul, if_neg c1, nI_1]
  · have c1 : (0 : Int32) < nI t := nI_0lt (by omega) (by omega)
    by_cases hy : t = S
    · subst hy
      have c2 : ¬ nI t < nI t := Int32.lt_irrefl
      refine ⟨v14, ?_⟩
      simp only [q84_287, q84_289, q84_292, q84_294, q84_297, q84_299, q84_299N, q84_301, q84_302, q84_303, q84_306, q84_306N, q84_308, q84_308N, q84_310, q84_312, q84_313, q84_314, q84_315, q84_315N, q84_316, q84_318, q84_319, q84_320, q84_321, q84_322, q84_322N, q84_323, q84_325, q84_326, q84_327, q84_328, q84_329, q84_329N, q84_331, q84_332, q84_333, q84_334, q84_334N, q84_336, q84_338, q84_339, q84_342, q84_344, q84_346, q84_349, q84_349N, q84_350, q84_352, q84_353, q84_356, q84_358, q84_361, q84_361N, q84_362, q84_364, q84_365, q84_368, q84_370, q84_373, q84_373N, q84_374, q84_376, q84_377, q84_380, q84_382, q84_385, q84_386, q84_389, q84_390, q84_392, q84_395, rv_v, rv_n, rh_v, mu_at, isF_r, isK_r, fld_r, fset_r, gd0, gd1, gd2, gd3, gd4, gd5, gd6, gd7, gd8, gd9, gd10, gd11, gd12, gd13, inA_l, inW_l, inZ_l, inQ_l, aget_l, aset_l, qget_l, qset_l, isA_l, isA_q, alen_l, k2_i, k2_a, k2_n, k2_u, k2_l, ite_si, Option.isSome_some, List.cons_append, List.nil_append, List.length_cons, List.length_nil, Nat.reduceAdd, Nat.zero_add, Nat.reduceLT, Nat.reduceEqDiff, decide_true, decide_false, Bool.and_self, Bool.and_true, Bool.true_and, ↓reduceIte, List.set_cons_zero, List.set_cons_succ, Nat.reduceSub, Nat.add_left_cancel_iff, Nat.add_eq_left, Nat.left_eq_add, not_true_eq_false, not_false_eq_true, reduceCtorEq, i10, i01, ib10, ib01, beq_self_eq_true, eq_self, Int32.reduceLT, Int32.reduceToNatClampNeg, Int32.reduceAdd, Int32.reduceSub, Int32.reduceMul, Bool.or_true, Bool.true_or, Bool.or_false, Bool.false_or, Nat.reduceBEq, Nat.reduceMul, if_pos c1, en, hn3, if_neg c2, nI_1]
    · have hj : t < S := by omega
      have c2 : nI t < nI S := nI_lt hj (by omega)
      obtain ⟨R, eR, r2, r60⟩ := hI.rep
      obtain ⟨u, rfl⟩ : ∃ u, t = u + 1 := ⟨t - 1, by omega⟩
      obtain ⟨P, eP, hP⟩ := hI.mBn eR (by omega) (by omega) u
      obtain ⟨P', eP', hP'⟩ := hI.mBn eR (by omega) (by omega) (u + 1)
      obtain ⟨Q, eQ, hQ⟩ := hI.mAn eR (by omega) (by omega) S (u + 1)
      obtain ⟨n, el, l1, l2⟩ := hI.len h3 hS (show u < S by omega)
      have hne : ¬ σ.1 0 = 0 := by rw [eR]; exact nI_ne0 (by omega) (by omega)
      have i3 : nI (u + 1) - 1 = nI u := nI_pred u
      have i0 : ¬ nI u < 0 := nI_pos (by omega)
      have i1 : (nI u).toNatClampNeg = u := nI_clamp (by omega)
      have i2 : u < 20 := by omega
      have j0 : ¬ nI (u + 1) < 0 := nI_pos (by omega)
      have j1 : (nI (u + 1)).toNatClampNeg = u + 1 := nI_clamp (by omega)
      have j2 : u + 1 < 20 := by omega
      have g1 := hp0 u (by omega)
      have g2 := hp1 (u + 1) (Nat.le_refl _) (by omega)
      have g3 : mB σ.1 u + rf u + tf u = mB σ.1 u + ln σ.1 u := by rw [(hrt u (by omega)).1, (hrt u (by omega)).2, Int32.add_assoc]; rfl
      have g4 : mB σ.1 u + ln σ.1 u - (mB σ.1 u + ln σ.1 u) / σ.1 0 * σ.1 0 = mB σ.1 (u + 1) := by
        rw [rem_lo (X := P + n) (by rw [eP, el]; exact nI_add P n) eR (by omega) (by omega) (by omega), mB_s hI h3 hS (show u < S by omega)]
      have wa := p_around (h := (z, m)) (r := σ.1) en n0 eR hP' hQ (by omega)
      rw [← eP', ← eQ] at wa
      have hb : ¬ bw (nI (u + 1)) 0 (σ.1 3 - 1) = 0 := by
        rw [h3, ← has_bw _ hS, if_neg j0, if_pos c2]
        decide
      have w0 : cl 61 [.ref a, .int (nI (u + 1)), .int 0] (z, m) = some (some (.int (mD σ.1 (mB σ.1 (u + 1)) (mA σ.1 S (u + 1)))), (z, m)) := c_ifMet2 0 hj (by omega) hS h3 hI (by decide) (z, m) hC
      have w1 : cl 61 [.ref a, .int (nI (u + 1)), .int 1] (z, m) = some (some (.int (mD σ.1 (mB σ.1 (u + 1)) (mA σ.1 S (u + 1)))), (z, m)) := c_ifMet2 1 hj (by omega) hS h3 hI (by decide) (z, m) hC
      have w2 : cl 61 [.ref a, .int (nI (u + 1)), .int 2] (z, m) = some (some (.int (-2)), (z, m)) := c_ifMet1 (nI (u + 1)) 2 hb (nI_ne0 (by omega) (by omega)) (by decide) (z, m) hC
      refine ⟨.int (mD σ.1 (mB σ.1 (u + 1)) (mA σ.1 S (u + 1))), ?_⟩
      simp only [q84_287, q84_289, q84_292, q84_294, q84_297, q84_299, q84_299N, q84_301, q84_302, q84_303, q84_306, q84_306N, q84_308, q84_308N, q84_310, q84_312, q84_313, q84_314, q84_315, q84_315N, q84_316, q84_318, q84_319, q84_320, q84_321, q84_322, q84_322N, q84_323, q84_325, q84_326, q84_327, q84_328, q84_329, q84_329N, q84_331, q84_332, q84_333, q84_334, q84_334N, q84_336, q84_338, q84_339, q84_342, q84_344, q84_346, q84_349, q84_349N, q84_350, q84_352, q84_353, q84_356, q84_358, q84_361, q84_361N, q84_362, q84_364, q84_365, q84_368, q84_370, q84_373, q84_373N, q84_374, q84_376, q84_377, q84_380, q84_382, q84_385, q84_386, q84_389, q84_390, q84_392, q84_395, rv_v, rv_n, rh_v, mu_at, isF_r, isK_r, fld_r, fset_r, gd0, gd1, gd2, gd3, gd4, gd5, gd6, gd7, gd8, gd9, gd10, gd11, gd12, gd13, inA_l, inW_l, inZ_l, inQ_l, aget_l, aset_l, qget_l, qset_l, isA_l, isA_q, alen_l, k2_i, k2_a, k2_n, k2_u, k2_l, ite_si, Option.isSome_some, List.cons_append, List.nil_append, List.length_cons, List.length_nil, Nat.reduceAdd, Nat.zero_add, Nat.reduceLT, Nat.reduceEqDiff, decide_true, decide_false, Bool.and_self, Bool.and_true, Bool.true_and, ↓reduceIte, List.set_cons_zero, List.set_cons_succ, Nat.reduceSub, Nat.add_left_cancel_iff, Nat.add_eq_left, Nat.left_eq_add, not_true_eq_false, not_false_eq_true, reduceCtorEq, i10, i01, ib10, ib01, beq_self_eq_true, eq_self, Int32.reduceLT, Int32.reduceToNatClampNeg, Int32.reduceAdd, Int32.reduceSub, Int32.reduceMul, Bool.or_true, Bool.true_or, Bool.or_false, Bool.false_or, Nat.reduceBEq, Nat.reduceMul, if_pos c1, er, et, en, hp, hn3, n0, if_pos c2, i3, i0, i1, i2, j0, j1, j2, g1, g2, g3, g4, hne, wa, k1, w0, w1, w2, nI_1]
end
section
variable {a k S t s1 s2 : Nat} {σ : AS} {m : xM} {rf tf cf nf : Nat → Int32} {x5 x6 : Int32} {v9 v10 v11 v12 v13 v14 : Value}
theorem p_w1 (hq : a + 88 ≤ s1) (hM : LA4 m a rf tf cf nf) (h3 : σ.1 3 = nI S) (hS : S ≤ 20) (hS0 : 0 < S) (ht : t ≤ S) (n3 : nf 3 = σ.1 3) : rn 84 64 [.ref a, .ref (a + 82), .ref (a + 83), .ref (a + 86), .ref (a + 87), .int x5, .int x6, .int 1, .int (nI t), v9, v10, v11, v12, v13, v14] [] ((s1, s2), m) = rn 84 125 [.ref a, .ref (a + 82), .ref (a + 83), .ref (a + 86), .ref (a + 87), .int x5, .int x6, .int 1, .int (nI t), .ref s1, .ref (s1 + 1), .ref (s1 + 2), .int 1, .int 0, v14] [] ((s1 + 3, s2 + 52), mu (mu (mu m s1 (.inl (0, 20, .inl (fun _ => 0)))) (s1 + 1) (.inl (0, 20, .inl (fun _ => 0)))) (s1 + 2) (.inl (0, 12, .inl (upd (upd (fun _ => 0) 0 (cf 0)) 6 (cf 6))))) := by
  obtain ⟨er, et, ec, en⟩ := hM
  have hn3 : nf 3 = nI S := n3.trans h3
  have c1 : ¬ nI S < nI t := nI_nlt ht (by omega)
  have c2 : 0 < nI S := nI_0lt hS0 (by omega)
  have y0 : ¬ a + 86 = s1 := by omega
  have y1 : ¬ a + 86 = s1 + 1 := by omega
  have y2 : ¬ a + 86 = s1 + 2 := by omega
  have y3 : ¬ s1 + 2 = s1 := by omega
  rw [q84_64]
  simp only [q84_66, q84_66N, q84_68, q84_69, q84_70, q84_73, q84_73N, q84_75, q84_76, q84_77, q84_80, q84_82, q84_85, q84_87, q84_89, q84_89N, q84_91, q84_93, q84_95, q84_95N, q84_97, q84_99, q84_101, q84_101N, q84_103, q84_103N, q84_105, q84_106, q84_106N, q84_107, q84_108, q84_109, q84_110, q84_110N, q84_112, q84_114, q84_114N, q84_115, q84_117, q84_118, q84_119, q84_120, q84_122, q84_123, rv_v, rv_n, rh_v, mu_at, isF_r, isK_r, fld_r, fset_r, gd0, gd1, gd2, gd3, gd4, gd5, gd6, gd7, gd8, gd9, gd10, gd11, gd12, gd13, inA_l, inW_l, inZ_l, inQ_l, aget_l, aset_l, qget_l, qset_l, isA_l, isA_q, alen_l, k2_i, k2_a, k2_n, k2_u, k2_l, ite_si, Option.isSome_some, List.cons_append, List.nil_append, List.length_cons, List.length_nil, Nat.reduceAdd, Nat.zero_add, Nat.reduceLT, Nat.reduceEqDiff, decide_true, decide_false, Bool.and_self, Bool.and_true, Bool.true_and, ↓reduceIte, List.set_cons_zero, List.set_cons_succ, Nat.reduceSub, Nat.add_left_cancel_iff, Nat.add_eq_left, Nat.left_eq_add, not_true_eq_false, not_false_eq_true, reduceCtorEq, i10, i01, ib10, ib01, beq_self_eq_true, eq_self, Int32.reduceLT, Int32.reduceToNatClampNeg, Int32.reduceAdd, Int32.reduceSub, Int32.reduceMul, Bool.or_true, Bool.true_or, Bool.or_false, Bool.false_or, Nat.reduceBEq, Nat.reduceMul, en, ec, hn3, if_neg c1, if_pos c2, Nat.add_assoc, Nat.reduceLeDiff, and_self, true_and, and_true, mu_mu, y0, y1, y2, y3]
theorem LC.d0 {r : Row} (hc : LC r cf) : LC (clr r) (upd (upd (fun _ => 0) 0 (cf 0)) 6 (cf 6)) := by
  obtain ⟨q45, q46, q47, q48, q50, q51, q52, q53⟩ := clr_at r
  obtain ⟨c0, c1, c2, c3, c4, c6, c7, c8, c9, c10, c5, c11⟩ := hc
  have w44 : clr r 44 = r 44 := clr_keep r (by omega)
  have w49 : clr r 49 = r 49 := clr_keep r (by omega)
  refine ⟨?_, ?_, ?_, ?_, ?_, ?_, ?_, ?_, ?_, ?_, fun q => absurd q47 q, fun q => absurd q52 q⟩
  · rw [w44, upd_n _ _ (by omega), upd_s]; exact c0
  · rw [q45]; rfl
  · rw [q46]; rfl
  · rw [q47]; rfl
  · rw [q48]; rfl
  · rw [w49, upd_s]; exact c6
  · rw [q50]; rfl
  · rw [q51]; rfl
  · rw [q52]; rfl
  · rw [q53]; rfl
theorem p_wIter (hq : a + 88 ≤ s1) (hC : CC m a σ) (hM : LA4 m a rf tf cf nf) (hI : RI k σ.1) (hk : k < 800) (h3 : σ.1 3 = nI S) (hS : S ≤ 20) (hS0 : 0 < S) (ht : t ≤ S) (n0 : nf 0 = σ.1 0) (n1 : nf 1 = σ.1 1) (n3 : nf 3 = σ.1 3) (hc : LC σ.1 cf) (hrt : ∀ j, j < S → rf j = σ.1 (4 + j) ∧ tf j = σ.1 (24 + j)) (h6 : x6 = -6 ∨ ∃ j, j < t ∧ x6 = nI j) : ∃ (m' : xM) (w9 w10 w11 w12 w13 w14 : Value), rn 84 64 [.ref a, .ref (a + 82), .ref (a + 83), .ref (a + 86), .ref (a + 87), .int x5, .int x6, .int 1, .int (nI t), v9, v10, v11, v12, v13, v14] [] ((s1, s2), m) = rn 84 64 [.ref a, .ref (a + 82), .ref (a + 83), .ref (a + 86), .ref (a + 87), .int (blL (tv σ.1 S) x6 x5 t), .int (blB (tv σ.1 S) x6 x5 t), .int 1, .int (nI (t + 1)), w9, w10, w11, w12, w13, w14] [] ((s1 + 3, s2 + 52), m') ∧ CC m' a σ ∧ ∀ x, (x < a ∨ a + 82 ≤ x) → x < s1 → m' x = m x := by
  have n6t : ¬ x6 = nI t := by
    rcases h6 with h6 | ⟨j, hj, h6⟩
    · rw [h6]; exact fun q => nI_n6 (show t < 1000 by omega) q.symm
    · rw [h6]; exact fun q => by have := nI_inj (by omega) (by omega) q; omega
  have e1 := p_w1 (x5 := x5) (x6 := x6) (v9 := v9) (v10 := v10) (v11 := v11) (v12 := v12) (v13 := v13) (v14 := v14) (s2 := s2) hq hM h3 hS hS0 ht n3
  have f1 : ∀ x, x < s1 → mu (mu (mu m s1 (.inl (0, 20, .inl (fun _ => 0)))) (s1 + 1) (.inl (0, 20, .inl (fun _ => 0)))) (s1 + 2) (.inl (0, 12, .inl (upd (upd (fun _ => 0) 0 (cf 0)) 6 (cf 6)))) x = m x := fun x hx => by rw [mu_n _ _ (by omega), mu_n _ _ (by omega), mu_n _ _ (by omega)]
  have b2 : mu (mu (mu m s1 (.inl (0, 20, .inl (fun _ => 0)))) (s1 + 1) (.inl (0, 20, .inl (fun _ => 0)))) (s1 + 2) (.inl (0, 12, .inl (upd (upd (fun _ => 0) 0 (cf 0)) 6 (cf 6)))) (s1 + 2) = .inl (0, 12, .inl (upd (upd (fun _ => 0) 0 (cf 0)) 6 (cf 6))) := mu_s _ _ _
  have b1 : mu (mu (mu m s1 (.inl (0, 20, .inl (fun _ => 0)))) (s1 + 1) (.inl (0, 20, .inl (fun _ => 0)))) (s1 + 2) (.inl (0, 12, .inl (upd (upd (fun _ => 0) 0 (cf 0)) 6 (cf 6)))) (s1 + 1) = .inl (0, 20, .inl (fun _ => 0)) := by rw [mu_n _ _ (by omega), mu_s]
  have b0 : mu (mu (mu m s1 (.inl (0, 20, .inl (fun _ => 0)))) (s1 + 1) (.inl (0, 20, .inl (fun _ => 0)))) (s1 + 2) (.inl (0, 12, .inl (upd (upd (fun _ => 0) 0 (cf 0)) 6 (cf 6)))) s1 = .inl (0, 20, .inl (fun _ => 0)) := by rw [mu_n _ _ (by omega), mu_n _ _ (by omega), mu_s]
  generalize mu (mu (mu m s1 (.inl (0, 20, .inl (fun _ => 0)))) (s1 + 1) (.inl (0, 20, .inl (fun _ => 0)))) (s1 + 2) (.inl (0, 12, .inl (upd (upd (fun _ => 0) 0 (cf 0)) 6 (cf 6)))) = mW at e1 f1 b0 b1 b2
  obtain ⟨q45, q46, q47, q48, q50, q51, q52, q53⟩ := clr_at σ.1
  have MW : LA4 mW a rf tf cf nf := hM.fr (fun x q1 q2 => f1 x (by omega))
  obtain ⟨a0, a1⟩ := p_wA (x5 := x5) (x6 := x6) (x7 := 1) (z := (s1 + 3, s2 + 52)) (v14 := v14) hq h3 hS ht hrt n0 n1 t 0 0 mW (clr σ.1) _ _ _ 0 (by omega) (by omega) MW b0 b1 b2 hI.cl0 (BQ.c σ.1) hc.d0 q45 q50 (fun j hj => absurd hj (by omega)) q48
  have fail : ∀ (mX : xM) (x13 : Int32), rn 84 64 [.ref a, .ref (a + 82), .ref (a + 83), .ref (a + 86), .ref (a + 87), .int x5, .int x6, .int 1, .int (nI t), v9, v10, v11, v12, v13, v14] [] ((s1, s2), m) = rn 84 205 [.ref a, .ref (a + 82), .ref (a + 83), .ref (a + 86), .ref (a + 87), .int x5, .int x6, .int 1, .int (nI t), .ref s1, .ref (s1 + 1), .ref (s1 + 2), .int 0, .int x13, v14] [] ((s1 + 3, s2 + 52), mX) → (∀ x, x < s1 → mX x = m x) → tv σ.1 S t = -6 → ∃ (m' : xM) (w9 w10 w11 w12 w13 w14 : Value), rn 84 64 [.ref a, .ref (a + 82), .ref (a + 83), .ref (a + 86), .ref (a + 87), .int x5, .int x6, .int 1, .int (nI t), v9, v10, v11, v12, v13, v14] [] ((s1, s2), m) = rn 84 64 [.ref a, .ref (a + 82), .ref (a + 83), .ref (a + 86), .ref (a + 87), .int (blL (tv σ.1 S) x6 x5 t), .int (blB (tv σ.1 S) x6 x5 t), .int 1, .int (nI (t + 1)), w9, w10, w11, w12, w13, w14] [] ((s1 + 3, s2 + 52), m') ∧ CC m' a σ ∧ ∀ x, (x < a ∨ a + 82 ≤ x) → x < s1 → m' x = m x := by
    intro mX x13 e hX hv
    obtain ⟨m', e2, g1, g2⟩ := p_wN (x5 := x5) (x6 := x6) (x13 := x13) (z := (s1 + 3, s2 + 52)) (v14 := v14) hq (hC.fr (fun x p1 p2 => hX x (by omega))) (hM.fr (fun x p1 p2 => hX x (by omega))) hI hk h3 hS hS0 ht n0 n3 hv n6t
    have hB : blB (tv σ.1 S) x6 x5 t = x6 := by unfold blB; rw [if_pos hv]
    have hL : blL (tv σ.1 S) x6 x5 t = x5 := by unfold blL; rw [if_pos hv]
    rw [hB, hL]
    exact ⟨m', _, _, _, _, _, _, e.trans e2, g1, fun x p1 p2 => (g2 x p1).trans (hX x p2)⟩
  have t1 : ∀ (mX : xM) (y12 y13 : Int32), rn 84 161 [.ref a, .ref (a + 82), .ref (a + 83), .ref (a + 86), .ref (a + 87), .int x5, .int x6, .int 1, .int (nI t), .ref s1, .ref (s1 + 1), .ref (s1 + 2), .int y12, .int y13, v14] [] ((s1 + 3, s2 + 52), mX) = rn 84 169 [.ref a, .ref (a + 82), .ref (a + 83), .ref (a + 86), .ref (a + 87), .int x5, .int x6, .int 1, .int (nI t), .ref s1, .ref (s1 + 1), .ref (s1 + 2), .int y12, .int (nI S - 1), v14] [] ((s1 + 3, s2 + 52), mX) ∨ ¬ mX (a + 87) = .inl (0, 4, .inl nf) := by
    intro mX y12 y13
    by_cases hz : mX (a + 87) = .inl (0, 4, .inl nf)
    · refine Or.inl ?_
      have hn3 : nf 3 = nI S := n3.trans h3
      simp only [q84_161, q84_161N, q84_163, q84_164, q84_165, q84_166, q84_167, rv_v, rv_n, rh_v, mu_at, isF_r, isK_r, fld_r, fset_r, gd0, gd1, gd2, gd3, gd4, gd5, gd6, gd7, gd8, gd9, gd10, gd11, gd12, gd13, inA_l, inW_l, inZ_l, inQ_l, aget_l, aset_l, qget_l, qset_l, isA_l, isA_q, alen_l, k2_i, k2_a, k2_n, k2_u, k2_l, ite_si, Option.isSome_some, List.cons_append, List.nil_append, List.length_cons, List.length_nil, Nat.reduceAdd, Nat.zero_add, Nat.reduceLT, Nat.reduceEqDiff, decide_true, decide_false, Bool.and_self, Bool.and_true, Bool.true_and, ↓reduceIte, List.set_cons_zero, List.set_cons_succ, Nat.reduceSub, Nat.add_left_cancel_iff, Nat.add_eq_left, Nat.left_eq_add, not_true_eq_false, not_false_eq_true, reduceCtorEq, i10, i01, ib10, ib01, beq_self_eq_true, eq_self, Int32.reduceLT, Int32.reduceToNatClampNeg, Int32.reduceAdd, Int32.reduceSub, Int32.reduceMul, Bool.or_true, Bool.true_or, Bool.or_false, Bool.false_or, Nat.reduceBEq, Nat.reduceMul, hz, hn3]
    · exact Or.inr hz
  by_cases hA : (lA (clr σ.1) 0 t).2 = 0
  · obtain ⟨m2, x13, e2, f2⟩ := a0 hA
    rw [show nI 0 = 0 from rfl] at e2
    have hX : ∀ x, x < s1 → m2 x = m x := fun x hx => (f2 x (by omega)).trans (f1 x hx)
    have e3 := (t1 m2 0 x13).resolve_right (fun q => q ((hX _ (by omega)).trans hM.2.2.2))
    refine fail m2 (nI S - 1) (e1.trans (e2.trans (e3.trans (p_wBx _ _)))) hX ?_
    unfold tv
    rw [lAB_0 hA]
    exact if_pos rfl
  · obtain ⟨m2, pf2, bf2, df2, y2, e2, f2, g0, g1, g2, gL, gI, gB, gp, g45, gy, gyb⟩ := a1 hA
    rw [show nI 0 = 0 from rfl] at e2
    have hX : ∀ x, x < s1 → m2 x = m x := fun x hx => (f2 x (by omega)).trans (f1 x hx)
    have e3 := (t1 m2 1 (nI t)).resolve_right (fun q => q ((hX _ (by omega)).trans hM.2.2.2))
    have g50 : (lA (clr σ.1) 0 t).1 50 = nI 0 := by rw [lA_keep _ _ _ _ (by omega)]; exact q50
    have g53 : (lA (clr σ.1) 0 t).1 53 = nI 0 := by rw [lA_keep _ _ _ _ (by omega)]; exact q53
    obtain ⟨b0', b1'⟩ := p_wB (x5 := x5) (x6 := x6) (x7 := 1) (z := (s1 + 3, s2 + 52)) (v14 := v14) hq h3 hS ht hrt n0 n1 n3 (S - t) 0 (0 + t) m2 (lA (clr σ.1) 0 t).1 pf2 bf2 df2 0 (by omega) (by omega) (hM.fr (fun x p1 p2 => hX x (by omega))) g0 g1 g2 gI gB gL g45 g50 gp (fun j p1 p2 => absurd p2 (by omega)) g53
    rw [show t + (S - t) = S by omega] at b0' b1'
    by_cases hB : (lB S (lA (clr σ.1) 0 t).1 t (S - t)).2 = 0
    · obtain ⟨m3, x13, e4, f4⟩ := b0' hB
      have hX3 : ∀ x, x < s1 → m3 x = m x := fun x hx => (f4 x (by omega)).trans (hX x hx)
      refine fail m3 x13 (e1.trans (e2.trans (e3.trans e4))) hX3 ?_
      unfold tv
      rw [lAB_1 hA, if_pos hB]
    · obtain ⟨m3, pf3, bf3, df3, y3, e4, f4, k0, k1, k2, kL, kp, kq, ky, kyb⟩ := b1' hB
      have hX3 : ∀ x, x < s1 → m3 x = m x := fun x hx => (f4 x (by omega)).trans (hX x hx)
      have k48 : (lB S (lA (clr σ.1) 0 t).1 t (S - t)).1 48 = nI y2 := by rw [lB_keep _ _ _ _ _ (by omega)]; exact gy
      have hv : tv σ.1 S t = nI (y2 + y3) := by
        unfold tv
        rw [lAB_1 hA, if_neg hB, k48, ky]
        exact nI_add _ _
      have hdf : df3 4 + df3 10 = nI (y2 + y3) := by
        rw [kL.2.2.2.2.1, kL.2.2.2.2.2.2.2.2.2.1, k48, ky]
        exact nI_add _ _
      have hbd : y2 + y3 < 2 ^ 30 := by
        have z1 : 500 * t ≤ 500 * 20 := Nat.mul_le_mul_left _ (by omega)
        have z2 : 500 * (S - t) ≤ 500 * 20 := Nat.mul_le_mul_left _ (by omega)
        omega
      obtain ⟨m4, e5, j1, j2⟩ := p_wY1 (x5 := x5) (x6 := x6) (x13 := nI t - 1) (z := (s1 + 3, s2 + 52)) (v14 := v14) hq (hC.fr (fun x p1 p2 => hX3 x (by omega))) (hM.fr (fun x p1 p2 => hX3 x (by omega))) hI hk h3 hS hS0 ht n0 n3 k2 hdf hv hbd h6
      have hX4 : ∀ x, (x < a ∨ a + 82 ≤ x) → x < s1 → m4 x = m x := fun x p1 p2 => (j2 x p1).trans (hX3 x p2)
      obtain ⟨w14, e6⟩ := p_wY2 (x5 := blL (tv σ.1 S) x6 x5 t) (x6 := blB (tv σ.1 S) x6 x5 t) (x13 := nI (y2 + y3)) (z := (s1 + 3, s2 + 52)) (v14 := v14) hq j1 (hM.fr (fun x p1 p2 => hX4 x (by omega) (by omega))) hI hk h3 hS hS0 ht n0 n3 hrt ((j2 s1 (by omega)).trans k0) kp kq
      exact ⟨m4, _, _, _, _, _, w14, e1.trans (e2.trans (e3.trans (e4.trans (e5.trans e6)))), j1, hX4⟩
end
